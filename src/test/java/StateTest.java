/** Promises 25 and 26: undo, digest. */
public final class StateTest {

    private static final Class<IllegalStateException> STATE = IllegalStateException.class;

    public static void main(String[] args) {
        Check c = new Check("StateTest");
        undo(c);
        undoHidden(c);
        eachUndoable(c);
        notUndoable(c);
        digest(c);
        c.finish();
    }

    /** Promise 25; Terms: "at most 4 states are saved, and the oldest is dropped first". */
    private static void undo(Check c) {
        SpeedTurns x = new SpeedTurns();
        c.fails("P25 no saved state", x, STATE, () -> x.undo());
        for (int i = 1; i <= 6; i++) {
            x.setShock(i);
        }
        for (int i = 3; i >= 0; i--) {
            c.same("P25 states that remain", i, x.undo());
            c.same("P25 the shock", i + 2, x.value(6));
        }
        c.fails("P25 the oldest were dropped", x, STATE, () -> x.undo());
        x.setShock(2);
        c.same("P25 a call that changes nothing saves", 0, x.undo());
        c.same("P25 the shock", 2, x.value(6));
        for (int i = 0; i < 9; i++) {
            x.setShock(100 + i);
            x.setShock(150 + i);
            x.undo();
        }
        for (int i = 8; i >= 6; i--) {
            c.same("P25 between others", 100 + i, x.value(6));
            c.same("P25 three remained", i - 6, x.undo());
        }
        c.same("P25 the first of them", 105, x.value(6));
    }

    /** Promise 25; Terms: "The saved state contains everything", also what no answer tells directly. */
    private static void undoHidden(Check c) {
        SpeedTurns x = new SpeedTurns();
        x.add(9, 100);
        x.add(8, 100);
        x.add(7, 100);
        x.next();
        x.act(0, 0, 1, 1);
        x.undo();
        c.same("P25 no act was begun any more", 0, x.delay());
        x.next();
        x.end();
        x.undo();
        x.undo();
        c.same("P25 the latest turn is the first one's", 0, x.comeIn(0));
        c.fails("P25 it was delayed", x, STATE, () -> x.delay());
        x.undo();
        x.undo();
        c.same("P25 it can delay again", 0, x.delay());
        x.comeIn(0);
        x.cast(0, 1, 2, 13, 4, 3);
        x.settle();
        x.undo();
        x.settle();
        int[] due = {2, 13, 0, 1, 4, 1, 1};
        for (int what = 0; what < due.length; what++) {
            c.same("P25 the act that comes back is whole, " + what, due[what], x.effect(0, what));
        }
    }

    /**
     * Promise 25; Terms: "Each successful call of a method whose description says "undoable" saves the state".
     * Each call goes on from the state of the one before, which differs from the state that is saved ahead of it.
     */
    private static void eachUndoable(Check c) {
        SpeedTurns x = new SpeedTurns();
        undone(c, "next for nobody", x, () -> x.next());
        undone(c, "add", x, () -> x.add(9, 100));
        undone(c, "another add", x, () -> x.add(8, 1));
        undone(c, "setSpeed", x, () -> x.setSpeed(0, 10));
        undone(c, "setShock", x, () -> x.setShock(3));
        undone(c, "next", x, () -> x.next());
        undone(c, "delay", x, () -> x.delay());
        undone(c, "comeIn", x, () -> x.comeIn(0));
        undone(c, "cast", x, () -> x.cast(0, 1, 1, 5, 1, 1));
        undone(c, "settle", x, () -> x.settle());
        undone(c, "act", x, () -> x.act(0, 1, 1, 5));
        undone(c, "settle of a heal", x, () -> x.settle());
        undone(c, "end", x, () -> x.end());
        x.append('n');
        x.append(';');
        undone(c, "carryOut", x, () -> x.carryOut());
        undone(c, "setSpeed without a change", x, () -> x.setSpeed(0, 10));
        undone(c, "setShock once more", x, () -> x.setShock(4));
        undone(c, "setShock without a change", x, () -> x.setShock(4));
    }

    /** Makes the call, undoes it, and makes it again. */
    private static void undone(Check c, String what, SpeedTurns x, Check.Call call) {
        long before = written(x, 0, 0);
        call.make();
        x.undo();
        c.same("P25 undone: " + what, before, written(x, 0, 0));
        call.make();
    }

    /** Promise 25: questions and the script text are not "undoable". */
    private static void notUndoable(Check c) {
        SpeedTurns x = new SpeedTurns();
        x.add(9, 100);
        x.next();
        x.cast(0, 0, 1, 1, 2, 0);
        x.settle();
        x.undo();
        x.settle();
        x.act(0, 0, 0, 1);
        long before = x.digest();
        x.fighter(0, 0);
        x.effect(0, 0);
        x.value(0);
        x.inList(0);
        x.stacked(0, 0);
        x.mayAnswer(0);
        x.upcoming(40);
        x.goneAfter(0);
        x.lifeSettled();
        x.vigor();
        x.digest();
        c.same("P25 questions change nothing", before, x.digest());
        x.append('n');
        x.carryOut();
        x.clearText();
        c.same("P25 neither does a text", before, x.digest());
    }

    /** Promise 26: "for each of the following values v, set h = 31 * h + v". */
    private static void digest(Check c) {
        SpeedTurns x = new SpeedTurns();
        c.same("P26 a new object", written(x, 0, 0), x.digest());
        x.add(9, 100);
        x.add(12, 80);
        x.append('n');
        c.same("P26 fighters, a text", written(x, 1, 2), x.digest());
        x.next();
        x.cast(1, 0, 0, 5, 6, 3);
        x.settle();
        x.cast(1, 0, 3, 5, 6, 0);
        x.act(0, 3, 1, 7);
        c.same("P26 effects, a list, acts", written(x, 1, 4), x.digest());
        x.settle();
        x.undo();
        x.undo();
        c.same("P26 the saved states", written(x, 1, 2), x.digest());
        x.clearText();
        c.same("P26 no text", written(x, 0, 2), x.digest());
    }

    private static long written(SpeedTurns x, int textLength, int savedStates) {
        long h = 3343;
        h = 31 * h + textLength;
        for (int what = 0; what <= 8; what++) {
            h = 31 * h + x.value(what);
        }
        for (int f = 0; f < x.value(0); f++) {
            for (int what = 0; what <= 8; what++) {
                h = 31 * h + x.fighter(f, what);
            }
        }
        for (int e = 0; e < x.value(2); e++) {
            for (int what = 0; what <= 6; what++) {
                h = 31 * h + x.effect(e, what);
            }
        }
        int listed = 0;
        for (int f = 0; f < x.value(0); f++) {
            listed += x.fighter(f, 6) == SpeedTurns.NONE ? 0 : 1;
        }
        for (int place = 0; place < listed; place++) {
            h = 31 * h + x.inList(place);
        }
        for (int index = 0; index < x.value(5); index++) {
            for (int what = 0; what <= 3; what++) {
                h = 31 * h + x.stacked(index, what);
            }
        }
        return 31 * h + savedStates;
    }
}
