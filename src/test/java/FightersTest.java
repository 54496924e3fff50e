/** Promises 1 to 8: a new object, add, setSpeed, setShock, fighter, effect, value, inList. */
public final class FightersTest {

    private static final Class<IndexOutOfBoundsException> INDEX = IndexOutOfBoundsException.class;
    private static final Class<IllegalArgumentException> ARGUMENT = IllegalArgumentException.class;
    private static final Class<IllegalStateException> STATE = IllegalStateException.class;
    private static final int NONE = SpeedTurns.NONE;

    public static void main(String[] args) {
        Check c = new Check("FightersTest");
        newObject(c);
        add(c);
        setSpeed(c);
        setShock(c);
        fighter(c);
        holding(c);
        effect(c);
        value(c);
        leastLife(c);
        inList(c);
        c.finish();
    }

    /** Promise 1: "Creates a game without fighters, in round 0." */
    private static void newObject(Check c) {
        SpeedTurns x = new SpeedTurns();
        int[] due = {0, 0, 0, 0, NONE, 0, 10, 0, 0};
        for (int what = 0; what < due.length; what++) {
            c.same("P1 value " + what + " of a new object", due[what], x.value(what));
        }
        c.same("P1 no text", 0, x.clearText());
        c.fails("P1 no list", x, INDEX, () -> x.inList(0));
        c.fails("P1 no saved state", x, STATE, () -> x.undo());
    }

    /** Promise 2: "`speed`: 1 to 30", "`life`: 1 to 200", "if there are 10 fighters", "Undoable". */
    private static void add(Check c) {
        SpeedTurns x = new SpeedTurns();
        c.fails("P2 speed 0", x, ARGUMENT, () -> x.add(0, 1));
        c.fails("P2 speed 31", x, ARGUMENT, () -> x.add(31, 1));
        c.fails("P2 least speed", x, ARGUMENT, () -> x.add(Integer.MIN_VALUE, 1));
        c.fails("P2 life 0", x, ARGUMENT, () -> x.add(1, 0));
        c.fails("P2 life 201", x, ARGUMENT, () -> x.add(1, 201));
        c.fails("P2 greatest life", x, ARGUMENT, () -> x.add(1, Integer.MAX_VALUE));
        c.same("P2 least fighter", 0, x.add(1, 1));
        c.same("P2 greatest fighter", 1, x.add(30, 200));
        c.same("P2 saves", 1, x.undo());
        c.same("P2 undone", 1, x.value(0));
        for (int i = 1; i < 10; i++) {
            c.same("P2 number", i, x.add(5, 50));
        }
        c.fails("P2 an 11th", x, STATE, () -> x.add(5, 50));
        c.fails("P2 a wrong 11th: the argument first", x, ARGUMENT, () -> x.add(31, 50));
        c.same("P2 the last", 9, x.value(0) - 1);
    }

    /** Promise 3: "(The list of the round stays.)", "Returns the previous speed.", and its refusals. */
    private static void setSpeed(Check c) {
        SpeedTurns x = new SpeedTurns();
        c.fails("P3 no fighter", x, INDEX, () -> x.setSpeed(0, 5));
        x.add(5, 50);
        x.add(6, 50);
        x.next();
        x.end();
        c.fails("P3 fighter -1", x, INDEX, () -> x.setSpeed(-1, 5));
        c.fails("P3 the fighter first", x, INDEX, () -> x.setSpeed(2, 0));
        c.fails("P3 speed 0", x, ARGUMENT, () -> x.setSpeed(0, 0));
        c.fails("P3 speed 31", x, ARGUMENT, () -> x.setSpeed(0, 31));
        c.same("P3 previous", 5, x.setSpeed(0, 30));
        c.same("P3 previous", 30, x.setSpeed(0, 30));
        c.same("P3 new", 30, x.fighter(0, 0));
        c.same("P3 the list stays", 1, x.inList(0));
        x.next();
        x.end();
        c.same("P3 a new round", 0, x.next());
        x.setSpeed(0, 2);
        x.setSpeed(0, 1);
        c.same("P3 saves", 3, x.undo());
        c.same("P3 undone", 2, x.fighter(0, 0));
        c.same("P3 saves each", 2, x.undo());
        c.same("P3 undone", 30, x.fighter(0, 0));
    }

    /** Promise 4: "`shock`: 1 to 200", "Returns the previous shock." */
    private static void setShock(Check c) {
        SpeedTurns x = new SpeedTurns();
        c.fails("P4 shock 0", x, ARGUMENT, () -> x.setShock(0));
        c.fails("P4 shock 201", x, ARGUMENT, () -> x.setShock(201));
        c.fails("P4 least shock", x, ARGUMENT, () -> x.setShock(Integer.MIN_VALUE));
        c.same("P4 previous", 10, x.setShock(200));
        c.same("P4 previous", 200, x.setShock(1));
        c.same("P4 new", 1, x.value(6));
        c.same("P4 saves", 1, x.undo());
        c.same("P4 undone", 200, x.value(6));
    }

    /** Promise 5: each "what" of a fighter through a turn, and its refusals. */
    private static void fighter(Check c) {
        SpeedTurns x = new SpeedTurns();
        c.fails("P5 no fighter", x, INDEX, () -> x.fighter(0, 0));
        x.add(7, 40);
        x.add(9, 60);
        c.fails("P5 fighter -1", x, INDEX, () -> x.fighter(-1, 0));
        c.fails("P5 the fighter first", x, INDEX, () -> x.fighter(2, 9));
        c.fails("P5 what -1", x, ARGUMENT, () -> x.fighter(1, -1));
        c.fails("P5 what 9", x, ARGUMENT, () -> x.fighter(1, 9));
        all(c, "P5 at first", x, 0, 7, 40, 40, 7, 1, NONE, NONE, NONE, 0);
        x.next();
        all(c, "P5 waiting", x, 0, 7, 40, 40, 7, 1, 0, 1, NONE, 0);
        all(c, "P5 has its turn", x, 1, 9, 60, 60, 9, 1, 1, 0, NONE, 0);
        x.cast(1, 0, 1, 5, 9, 0);
        x.act(0, 0, 1, 11);
        x.settle();
        all(c, "P5 hastened, has answered", x, 0, 7, 40, 40, 12, 0, 0, 1, NONE, 1);
        all(c, "P5 struck", x, 1, 9, 60, 49, 9, 1, 1, 0, NONE, 0);
        x.cast(1, 0, 2, 20, 9, 1);
        x.settle();
        all(c, "P5 slowed, at least 1", x, 0, 7, 40, 40, 1, 0, 0, 1, NONE, 2);
        all(c, "P5 holds", x, 1, 9, 60, 49, 9, 1, 1, 0, 1, 0);
        x.end();
        x.next();
        all(c, "P5 ready again", x, 0, 7, 40, 40, 1, 1, 1, 1, NONE, 2);
        x.delay();
        c.same("P5 delayed", 2, x.fighter(0, 5));
        x.add(3, 3);
        all(c, "P5 not in the list yet", x, 2, 3, 3, 3, 3, 1, NONE, NONE, NONE, 0);
    }

    /** Promise 5: "7 the effect that it holds (NONE if it holds none)"; Terms: "A fighter holds at most one effect". */
    private static void holding(Check c) {
        SpeedTurns x = new SpeedTurns();
        x.add(9, 100);
        x.add(8, 100);
        x.next();
        x.cast(0, 1, 3, 4, 5, 3);
        x.settle();
        c.same("P5 the source holds", 0, x.fighter(0, 7));
        c.same("P5 the target does not", NONE, x.fighter(1, 7));
        x.cast(0, 0, 0, 4, 5, 2);
        x.settle();
        x.cast(0, 0, 3, 6, 5, 1);
        x.settle();
        c.same("P5 the old one ended first", 1, x.fighter(0, 7));
        c.same("P5 two are left", 2, x.value(2));
        c.same("P5 one has ended", 1, x.value(8));
        x.act(0, 0, 0, 15);
        x.settle();
        c.same("P5 a loss of 9 does not shock", 1, x.fighter(0, 7));
        c.same("P5 a shield is worth 6", 91, x.fighter(0, 2));
        x.act(0, 0, 0, 16);
        x.settle();
        c.same("P5 a loss of 10 does", NONE, x.fighter(0, 7));
        c.same("P5 the life", 81, x.fighter(0, 2));
    }

    /** Promise 6: each "what" of an effect, and its refusals. */
    private static void effect(Check c) {
        SpeedTurns x = new SpeedTurns();
        x.add(9, 100);
        x.add(8, 100);
        x.next();
        c.fails("P6 no effect", x, INDEX, () -> x.effect(0, 0));
        for (int how = 0; how <= 3; how++) {
            x.cast(0, 1, how + 1, how + 5, 20 - how, how);
            x.settle();
        }
        c.same("P6 three are left, one was given up", 3, x.value(2));
        int[][] due = {{1, 5, 0, 1, 20, 0, 0}, {3, 7, 0, 1, 18, 1, 0}, {4, 8, 0, 1, 17, 1, 1}};
        for (int e = 0; e < due.length; e++) {
            for (int what = 0; what <= 6; what++) {
                c.same("P6 effect " + e + " what " + what, due[e][what], x.effect(e, what));
            }
        }
        c.fails("P6 effect -1", x, INDEX, () -> x.effect(-1, 0));
        c.fails("P6 the effect first", x, INDEX, () -> x.effect(3, 7));
        c.fails("P6 what -1", x, ARGUMENT, () -> x.effect(0, -1));
        c.fails("P6 what 7", x, ARGUMENT, () -> x.effect(0, 7));
    }

    /** Promise 7: each "what" through a turn, and its refusals. */
    private static void value(Check c) {
        SpeedTurns x = new SpeedTurns();
        c.fails("P7 what -1", x, ARGUMENT, () -> x.value(-1));
        c.fails("P7 what 9", x, ARGUMENT, () -> x.value(9));
        x.add(9, 100);
        x.add(8, 30);
        x.add(7, 10);
        x.next();
        x.cast(0, 2, 0, 10, 1, 0);
        x.settle();
        x.act(0, 0, 1, 30);
        values(c, "P7 an act is on the stack", x, 3, 3, 1, 1, 0, 1, 10, 1, 0);
        x.settle();
        values(c, "P7 one has fallen", x, 3, 2, 1, 1, 0, 0, 10, 1, 0);
        x.end();
        values(c, "P7 the turn has ended", x, 3, 2, 0, 1, NONE, 0, 10, 1, 1);
        x.next();
        x.delay();
        x.comeIn(2);
        values(c, "P7 a turn that was delayed counts once", x, 3, 2, 0, 1, 2, 0, 10, 2, 1);
    }

    /** Promises 7 and 9: "1 those that stand"; Terms: "at 0 it falls". */
    private static void leastLife(Check c) {
        SpeedTurns x = new SpeedTurns();
        x.add(9, 2);
        x.add(8, 1);
        c.same("P7 who has a life of 1 stands", 2, x.value(1));
        x.next();
        x.act(0, 0, 0, 1);
        x.settle();
        c.same("P7 who has a life of 1 left stands", 2, x.value(1));
        c.same("P7 its turn goes on", 0, x.value(4));
        x.end();
        c.same("P9 who has a life of 1 has a turn", 1, x.next());
    }

    /** Promise 8: "`place`: from 0"; Terms: "by descending present speeds at that time". */
    private static void inList(Check c) {
        SpeedTurns x = new SpeedTurns();
        x.add(5, 50);
        x.add(9, 50);
        x.add(5, 50);
        x.add(6, 50);
        c.fails("P8 no round yet", x, INDEX, () -> x.inList(0));
        x.next();
        list(c, "P8 by speeds, then by numbers", x, 1, 3, 0, 2);
        c.fails("P8 place -1", x, INDEX, () -> x.inList(-1));
        c.fails("P8 place 4", x, INDEX, () -> x.inList(4));
        c.fails("P8 a great place", x, INDEX, () -> x.inList(Integer.MAX_VALUE));
        x.cast(1, 2, 1, 20, 20, 0);
        x.act(3, 0, 0, 50);
        x.settle();
        list(c, "P8 the fallen stay in the list of the round", x, 1, 3, 0, 2);
        for (int i = 0; i < 2; i++) {
            x.end();
            x.next();
        }
        x.end();
        c.same("P8 a new round, present speeds", 2, x.next());
        list(c, "P8 those that stand", x, 2, 1, 3);
    }

    private static void list(Check c, String what, SpeedTurns x, int... due) {
        for (int place = 0; place < due.length; place++) {
            c.same(what + ", place " + place, due[place], x.inList(place));
            c.same(what + ", place of " + due[place], place, x.fighter(due[place], 6));
        }
        c.fails(what + ", no more", x, INDEX, () -> x.inList(due.length));
    }

    private static void values(Check c, String what, SpeedTurns x, int... due) {
        for (int i = 0; i < due.length; i++) {
            c.same(what + ", value " + i, due[i], x.value(i));
        }
    }

    private static void all(Check c, String what, SpeedTurns x, int fighter, int... due) {
        for (int i = 0; i < due.length; i++) {
            c.same(what + ", fighter " + fighter + ", what " + i, due[i], x.fighter(fighter, i));
        }
    }
}
