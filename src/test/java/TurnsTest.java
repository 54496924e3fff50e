/** Promises 9 to 12: next, end, delay, comeIn. */
public final class TurnsTest {

    private static final Class<IndexOutOfBoundsException> INDEX = IndexOutOfBoundsException.class;
    private static final Class<IllegalStateException> STATE = IllegalStateException.class;
    private static final int NONE = SpeedTurns.NONE;

    public static void main(String[] args) {
        Check c = new Check("TurnsTest");
        next(c);
        poison(c);
        poisonThatIsHeld(c);
        stun(c);
        end(c);
        fall(c);
        delay(c);
        comeIn(c);
        comeInBehind(c);
        c.finish();
    }

    /** Fighters by descending speeds, numbered in that order. */
    private static SpeedTurns game(int fighters, int life) {
        SpeedTurns x = new SpeedTurns();
        for (int i = 0; i < fighters; i++) {
            x.add(20 - i, life);
        }
        return x;
    }

    private static void begin(SpeedTurns x, int fighter, int target, int effect, int power, int turns, int how) {
        x.cast(fighter, target, effect, power, turns, how);
        x.settle();
    }

    /** Promise 9: "NONE if nobody stands"; Terms: "If there is none (or the round is 0), a new round begins first". */
    private static void next(Check c) {
        SpeedTurns x = new SpeedTurns();
        c.same("P9 nobody stands", NONE, x.next());
        c.same("P9 the round has increased", 1, x.value(3));
        c.same("P9 no turn has begun", 0, x.value(7));
        c.same("P9 saves all the same", 0, x.undo());
        c.same("P9 undone", 0, x.value(3));
        x.add(5, 50);
        x.add(6, 50);
        c.same("P9 the fastest", 1, x.next());
        c.fails("P9 a turn goes on", x, STATE, () -> x.next());
        x.add(30, 10);
        x.end();
        c.same("P9 the next", 0, x.next());
        c.same("P9 round 1", 1, x.value(3));
        x.act(0, 0, 2, 10);
        x.settle();
        x.end();
        c.same("P9 a new round without the fallen", 1, x.next());
        c.same("P9 round 2", 2, x.value(3));
        x.act(1, 0, 0, 50);
        x.settle();
        x.end();
        c.same("P9 who has fallen is passed over", 1, x.next());
        c.same("P9 round 3", 3, x.value(3));
        x.act(1, 0, 1, 50);
        x.settle();
        c.same("P9 all have fallen", NONE, x.next());
        c.same("P9 all have fallen", NONE, x.next());
        c.same("P9 round 5", 5, x.value(3));
    }

    /** Promise 9; Terms: "Then each poison on it that is still there, in order, is a harm of its power". */
    private static void poison(Check c) {
        SpeedTurns x = game(2, 20);
        x.next();
        begin(x, 0, 1, 0, 7, 9, 0);
        begin(x, 0, 1, 3, 20, 9, 0);
        begin(x, 0, 1, 0, 6, 9, 2);
        x.act(0, 0, 0, 1);
        x.act(1, 1, 0, 1);
        x.settle();
        c.same("P9 has answered", 0, x.fighter(1, 4));
        x.end();
        x.next();
        c.same("P9 poison, not reduced by the shield", 7, x.fighter(1, 2));
        c.same("P9 the answer is ready", 1, x.fighter(1, 4));
        x.end();
        x.next();
        x.end();
        c.same("P9 the one that falls", 1, x.next());
        c.same("P9 its turn is over", NONE, x.value(4));
        c.same("P9 it had its turn", 1, x.fighter(1, 5));
        c.same("P9 life 0", 0, x.fighter(1, 2));
        c.same("P9 its effects ended", 0, x.value(2));
        c.same("P9 they count", 3, x.value(8));
        c.same("P9 the turn counts", 4, x.value(7));
    }

    /** Promise 9; Terms: "Then each poison on it that is still there", when a harm breaks the hold on one. */
    private static void poisonThatIsHeld(Check c) {
        SpeedTurns x = game(1, 200);
        x.next();
        begin(x, 0, 0, 0, 20, 20, 3);
        begin(x, 0, 0, 0, 19, 20, 2);
        begin(x, 0, 0, 0, 18, 20, 2);
        x.end();
        x.next();
        c.same("P9 the held one broke, the others still harm", 143, x.fighter(0, 2));
        c.same("P9 two are left", 2, x.value(2));

        SpeedTurns y = game(1, 200);
        y.next();
        begin(y, 0, 0, 0, 20, 20, 2);
        begin(y, 0, 0, 0, 19, 20, 3);
        begin(y, 0, 0, 0, 18, 20, 2);
        y.end();
        y.next();
        c.same("P9 the held one is not there any more", 162, y.fighter(0, 2));
        c.same("P9 it ended", 1, y.value(8));
    }

    /** Promise 9; Terms: "If it stands, and there is a stun on it, its turn ends at once, as below." */
    private static void stun(Check c) {
        SpeedTurns x = game(2, 200);
        x.next();
        begin(x, 0, 1, 4, 1, 2, 2);
        begin(x, 0, 1, 0, 5, 1, 2);
        x.end();
        c.same("P9 the stunned one's turn", 1, x.next());
        c.same("P9 is over at once", NONE, x.value(4));
        c.same("P9 poison came", 195, x.fighter(1, 2));
        c.same("P9 its effects counted down", 1, x.value(2));
        c.same("P9 the stun has one turn left", 1, x.effect(0, 4));
        x.next();
        x.end();
        x.next();
        c.same("P9 stunned once more", NONE, x.value(4));
        c.same("P9 the stun has ended", 0, x.value(2));
        x.next();
        x.end();
        x.next();
        c.same("P9 not stunned any more", 1, x.value(4));

        SpeedTurns y = game(1, 200);
        y.next();
        begin(y, 0, 0, 0, 10, 20, 2);
        begin(y, 0, 0, 4, 1, 20, 3);
        y.end();
        y.next();
        c.same("P9 poison breaks the stun first", 0, y.value(4));
    }

    /** Promise 10: "Returns the number of effects that have counted down to 0 by this.", and its refusals. */
    private static void end(Check c) {
        SpeedTurns x = game(2, 100);
        c.fails("P10 no turn", x, STATE, () -> x.end());
        x.next();
        begin(x, 0, 1, 1, 3, 1, 0);
        begin(x, 0, 1, 1, 3, 1, 2);
        begin(x, 0, 0, 1, 3, 1, 2);
        begin(x, 0, 0, 1, 3, 2, 0);
        begin(x, 0, 1, 1, 3, 1, 1);
        x.act(0, 0, 1, 1);
        c.fails("P10 the stack is not empty", x, STATE, () -> x.end());
        x.settle();
        c.same("P10 three came to 0", 3, x.end());
        c.same("P10 two are left", 2, x.value(2));
        c.same("P10 the other's clock", 1, x.effect(0, 4));
        c.same("P10 the number moved up", 2, x.effect(0, 3) + x.effect(1, 4));
        c.same("P10 one turn is left", 1, x.effect(1, 4));
        c.same("P10 saves", 3, x.undo());
        c.same("P10 undone", 5, x.value(2));
        x.end();
        x.next();
        c.same("P10 the target's clock", 1, x.end());
        c.fails("P10 it has ended already", x, STATE, () -> x.end());
        x.next();
        c.same("P10 the source's clock", 1, x.end());
        c.same("P10 all have ended", 5, x.value(8));
        x.next();
        c.same("P10 none", 0, x.end());
    }

    /** Promise 15; Terms: "When a fighter falls, all effects on it end", and those of which it is the source. */
    private static void fall(Check c) {
        SpeedTurns x = game(3, 20);
        x.next();
        begin(x, 0, 1, 1, 1, 20, 0);
        begin(x, 0, 1, 1, 2, 20, 2);
        begin(x, 0, 1, 1, 3, 20, 3);
        x.act(0, 0, 2, 1);
        x.cast(1, 0, 2, 4, 20, 2);
        x.settle();
        x.cast(0, 2, 1, 5, 20, 0);
        x.cast(2, 1, 1, 6, 20, 0);
        x.settle();
        c.same("P15 six effects", 6, x.value(2));
        x.act(0, 0, 0, 20);
        x.settle();
        c.same("P15 the turn is over", NONE, x.value(4));
        c.same("P15 what is not held and has the target's clock stays", 2, x.value(2));
        c.same("P15 the first that stays", 2, x.effect(0, 1));
        c.same("P15 the second that stays", 6, x.effect(1, 1));
        c.same("P15 nothing counts down", 20, x.effect(1, 4));
        c.same("P15 the others ended", 4, x.value(8));
        x.next();
        x.end();
        c.same("P10 it counts down with its target", 19, x.effect(0, 4));
    }

    /** Promise 11: "or an act was begun in it, or it was delayed already in this round". */
    private static void delay(Check c) {
        SpeedTurns x = game(2, 100);
        c.fails("P11 no turn", x, STATE, () -> x.delay());
        x.next();
        begin(x, 0, 0, 1, 1, 1, 0);
        c.fails("P11 an act was begun and has happened", x, STATE, () -> x.delay());
        x.act(0, 0, 1, 1);
        c.fails("P11 an act is on the stack", x, STATE, () -> x.delay());
        x.settle();
        x.end();
        x.next();
        c.same("P11 the one that delays", 1, x.delay());
        c.same("P11 no turn goes on", NONE, x.value(4));
        c.same("P11 has delayed", 2, x.fighter(1, 5));
        c.same("P11 saves", 3, x.undo());
        c.same("P11 undone", 1, x.value(4));
        x.delay();
        x.comeIn(1);
        c.fails("P11 it was delayed already", x, STATE, () -> x.delay());
        x.end();
        x.next();
        begin(x, 0, 0, 3, 1, 1, 0);
        x.end();
        x.next();
        c.same("P11 in a new round again", 1, x.delay());
        x.next();
        c.same("P11 it lost its turn", 3, x.value(3));
        x.delay();
        c.same("P11 nothing counts down", 1, x.next());
    }

    /** Promise 12: "(poison, stun and the answer do not come once more)", and its refusals. */
    private static void comeIn(Check c) {
        SpeedTurns x = game(3, 100);
        c.fails("P12 fighter -1", x, INDEX, () -> x.comeIn(-1));
        c.fails("P12 fighter 3", x, INDEX, () -> x.comeIn(3));
        c.fails("P12 not in the list", x, STATE, () -> x.comeIn(0));
        x.next();
        begin(x, 0, 1, 0, 5, 20, 2);
        begin(x, 0, 1, 4, 5, 2, 3);
        c.fails("P12 a turn goes on", x, STATE, () -> x.comeIn(0));
        x.act(0, 0, 0, 60);
        x.settle();
        x.end();
        c.same("P12 the broken stun does not matter", 1, x.next());
        c.same("P12 poison", 95, x.fighter(1, 2));
        x.delay();
        c.fails("P12 waiting", x, STATE, () -> x.comeIn(2));
        c.fails("P12 had its turn", x, STATE, () -> x.comeIn(0));
        x.next();
        x.act(2, 0, 0, 1);
        x.act(1, 0, 2, 1);
        x.settle();
        c.fails("P12 another's turn goes on", x, STATE, () -> x.comeIn(1));
        x.end();
        c.same("P12 the last place", 2, x.comeIn(1));
        c.same("P12 no poison once more", 95, x.fighter(1, 2));
        c.same("P12 the answer does not come once more", 0, x.fighter(1, 4));
        c.same("P12 its turn goes on", 1, x.value(4));
        c.same("P12 it has its turn", 1, x.fighter(1, 5));
        c.same("P12 those between moved up", 2, x.inList(1));
        c.same("P12 the turns", 3, x.value(7));
        c.same("P12 saves", 3, x.undo());
        c.same("P12 undone", 1, x.inList(1));
        x.comeIn(1);
        x.end();
        c.same("P12 counts down", 18, 20 - x.value(3) - (20 - x.effect(0, 4)));
        c.fails("P12 not twice", x, STATE, () -> x.comeIn(1));
        x.next();
        x.delay();
        x.next();
        x.act(1, 0, 0, 60);
        x.settle();
        x.end();
        c.fails("P12 has fallen", x, STATE, () -> x.comeIn(0));
        x.next();
        x.delay();
        x.next();
        c.same("P12 a new round", 3, x.value(3));
        x.delay();
        c.fails("P12 delayed in the old round", x, STATE, () -> x.comeIn(2));
    }

    /** Promise 12; Terms: "(also if that one has fallen or has delayed; its old place is given up". */
    private static void comeInBehind(Check c) {
        SpeedTurns x = game(4, 100);
        x.next();
        x.delay();
        c.same("P12 behind itself: the place stays", 0, x.comeIn(0));
        x.end();
        x.next();
        x.delay();
        x.next();
        x.delay();
        c.same("P12 behind one that has delayed", 2, x.comeIn(1));
        x.end();
        c.same("P12 behind one that has come in", 2, x.comeIn(2));
        int[] due = {0, 1, 2, 3};
        for (int i = 0; i < due.length; i++) {
            c.same("P12 the list, place " + i, due[i], x.inList(i));
        }
        x.act(2, 0, 2, 60);
        x.settle();
        x.act(2, 0, 2, 60);
        x.settle();
        c.same("P12 fell in its turn", NONE, x.value(4));
        x.next();
        x.end();
        x.next();
        x.delay();
        x.next();
        x.delay();
        x.next();
        x.act(3, 0, 3, 60);
        x.settle();
        x.act(3, 0, 3, 60);
        x.settle();
        c.same("P12 behind one that has fallen", 2, x.comeIn(0));
        c.same("P12 the one before", 3, x.inList(1));
        c.same("P12 the first", 1, x.inList(0));
    }
}
