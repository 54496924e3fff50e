/** Promises 13 to 17: act, cast, settle, stacked, mayAnswer. */
public final class ActsTest {

    private static final Class<IndexOutOfBoundsException> INDEX = IndexOutOfBoundsException.class;
    private static final Class<IllegalArgumentException> ARGUMENT = IllegalArgumentException.class;
    private static final Class<IllegalStateException> STATE = IllegalStateException.class;
    private static final int NONE = SpeedTurns.NONE;

    public static void main(String[] args) {
        Check c = new Check("ActsTest");
        act(c);
        answers(c);
        atMostEight(c);
        cast(c);
        settle(c);
        counters(c);
        shields(c);
        manyEffects(c);
        stacked(c);
        mayAnswer(c);
        c.finish();
    }

    private static SpeedTurns game(int fighters, int life) {
        SpeedTurns x = new SpeedTurns();
        for (int i = 0; i < fighters; i++) {
            x.add(20 - i, life);
        }
        return x;
    }

    /** Promise 13: its arguments and refusals, and their order. */
    private static void act(Check c) {
        SpeedTurns x = game(2, 100);
        c.fails("P13 no turn", x, STATE, () -> x.act(0, 0, 1, 5));
        x.next();
        c.fails("P13 actor -1", x, INDEX, () -> x.act(-1, 0, 1, 5));
        c.fails("P13 actor 2, before the kind", x, INDEX, () -> x.act(2, 2, 1, 5));
        c.fails("P13 target -1", x, INDEX, () -> x.act(0, 0, -1, 5));
        c.fails("P13 target 2, before the power", x, INDEX, () -> x.act(0, 0, 2, 0));
        c.fails("P13 a counter's target", x, INDEX, () -> x.act(0, 3, 2, 1));
        c.fails("P13 kind 2", x, ARGUMENT, () -> x.act(0, 2, 1, 5));
        c.fails("P13 kind -1", x, ARGUMENT, () -> x.act(0, -1, 1, 5));
        c.fails("P13 kind 4", x, ARGUMENT, () -> x.act(0, 4, 1, 5));
        c.fails("P13 power 0", x, ARGUMENT, () -> x.act(0, 0, 1, 0));
        c.fails("P13 power 61", x, ARGUMENT, () -> x.act(0, 1, 1, 61));
        c.fails("P13 a counter's power, before its state", x, ARGUMENT, () -> x.act(0, 3, 1, 61));
        c.fails("P13 another's turn", x, STATE, () -> x.act(1, 0, 0, 5));
        c.fails("P13 a counter of nothing", x, STATE, () -> x.act(0, 3, 1, 5));
        c.same("P13 a strike", 1, x.act(0, 0, 1, 60));
        c.same("P13 its answer is not used", 1, x.fighter(0, 4));
        c.same("P13 saves", 3, x.undo());
        c.same("P13 undone", 0, x.value(5));
        c.same("P13 a heal", 1, x.act(0, 1, 1, 1));
        x.settle();
        c.same("P13 several acts in a turn", 1, x.act(0, 0, 0, 1));
    }

    /** Promise 13; Terms: "its answer is not ready any more, and its act, of any kind, comes onto the stack". */
    private static void answers(Check c) {
        SpeedTurns x = game(3, 100);
        x.next();
        x.act(0, 0, 1, 30);
        c.fails("P13 the actor of the topmost act", x, STATE, () -> x.act(0, 1, 1, 5));
        c.same("P13 an answer", 2, x.act(1, 0, 0, 5));
        c.same("P13 its answer is used", 0, x.fighter(1, 4));
        c.same("P13 who has the turn answers too", 3, x.act(0, 3, 0, 60));
        c.same("P13 and uses its answer", 0, x.fighter(0, 4));
        c.fails("P13 not ready", x, STATE, () -> x.act(1, 3, 0, 1));
        c.same("P13 a third one", 4, x.cast(2, 2, 3, 1, 1, 0));
        c.fails("P13 nobody is ready", x, STATE, () -> x.act(0, 1, 1, 5));
        c.same("P15 all but the countered one", 3, x.settle());
        c.same("P15 the strike happened", 70, x.fighter(1, 2));
        c.same("P15 the countered one did not", 100, x.fighter(0, 2));
        x.end();
        x.next();
        c.same("P9 ready again", 1, x.fighter(1, 4));
        c.same("P9 the others are not", 0, x.fighter(2, 4));
        x.act(1, 0, 2, 60);
        x.settle();
        x.act(1, 0, 2, 60);
        x.settle();
        x.act(1, 0, 2, 60);
        c.fails("P13 the fallen do not answer", x, STATE, () -> x.act(2, 1, 1, 5));
        c.same("P15 nothing happens to the fallen", 0, x.settle());
    }

    /** Promises 13, 14 and 17; Terms: "(at most 8 acts)". */
    private static void atMostEight(Check c) {
        SpeedTurns x = game(10, 100);
        x.next();
        for (int i = 0; i < 8; i++) {
            c.yes("P17 room for one more", i == 0 || x.mayAnswer(i));
            c.same("P13 the stack", i + 1, x.act(i, 0, 9, 1));
        }
        c.no("P17 the stack is full", x.mayAnswer(8));
        c.fails("P13 a ninth", x, STATE, () -> x.act(8, 0, 9, 1));
        c.fails("P14 a ninth", x, STATE, () -> x.cast(8, 9, 0, 1, 1, 0));
        c.same("P15 all eight", 8, x.settle());
        c.same("P15 all struck", 92, x.fighter(9, 2));
    }

    /** Promise 14: its arguments and refusals, and their order. */
    private static void cast(Check c) {
        SpeedTurns x = game(2, 100);
        c.fails("P14 no turn", x, STATE, () -> x.cast(0, 0, 0, 1, 1, 0));
        x.next();
        c.fails("P14 actor -1", x, INDEX, () -> x.cast(-1, 0, 0, 1, 1, 0));
        c.fails("P14 target 2, before the rest", x, INDEX, () -> x.cast(0, 2, 5, 1, 1, 0));
        c.fails("P14 effect -1", x, ARGUMENT, () -> x.cast(0, 0, -1, 1, 1, 0));
        c.fails("P14 effect 5", x, ARGUMENT, () -> x.cast(0, 0, 5, 1, 1, 0));
        c.fails("P14 power 0", x, ARGUMENT, () -> x.cast(0, 0, 0, 0, 1, 0));
        c.fails("P14 power 21", x, ARGUMENT, () -> x.cast(0, 0, 0, 21, 1, 0));
        c.fails("P14 turns 0", x, ARGUMENT, () -> x.cast(0, 0, 0, 1, 0, 0));
        c.fails("P14 turns 21", x, ARGUMENT, () -> x.cast(0, 0, 0, 1, 21, 0));
        c.fails("P14 how -1", x, ARGUMENT, () -> x.cast(0, 0, 0, 1, 1, -1));
        c.fails("P14 how 4, before the state", x, ARGUMENT, () -> x.cast(1, 0, 0, 1, 1, 4));
        c.fails("P14 another's turn", x, STATE, () -> x.cast(1, 0, 0, 1, 1, 0));
        c.same("P14 the first", 1, x.cast(0, 1, 4, 20, 20, 3));
        c.same("P14 no effect yet", 0, x.value(2));
        c.same("P14 an answer", 2, x.cast(1, 0, 0, 1, 1, 0));
        c.same("P14 the answer is used", 0, x.fighter(1, 4));
        c.same("P14 saves", 3, x.undo());
        c.same("P14 undone", 1, x.value(5));
        c.same("P15 it happened", 1, x.settle());
        c.same("P15 it began", 1, x.value(2));
        c.same("P15 its clock", 1, x.effect(0, 5));
        c.same("P15 it is held", 1, x.effect(0, 6));
    }

    /** Promise 15; Terms: "the topmost act leaves the stack and happens", "not above its first life". */
    private static void settle(Check c) {
        SpeedTurns x = game(3, 50);
        c.fails("P15 no stack", x, STATE, () -> x.settle());
        x.next();
        c.fails("P15 an empty stack", x, STATE, () -> x.settle());
        x.act(0, 0, 1, 20);
        c.same("P15 one", 1, x.settle());
        c.same("P15 saves", 3, x.undo());
        c.same("P15 undone", 50, x.fighter(1, 2));
        x.settle();
        x.act(0, 1, 1, 15);
        x.settle();
        c.same("P15 healed", 45, x.fighter(1, 2));
        x.act(0, 1, 1, 60);
        x.settle();
        c.same("P15 not above the first life", 50, x.fighter(1, 2));
        x.act(0, 0, 1, 60);
        x.act(1, 0, 0, 60);
        x.act(2, 1, 0, 60);
        c.same("P15 the last first; the turn's fighter falls", 2, x.settle());
        c.same("P15 its act did not happen", 50, x.fighter(1, 2));
        c.same("P15 its turn is over", NONE, x.value(4));
        c.same("P15 it had its turn", 1, x.fighter(0, 5));
        c.same("P15 two stand", 2, x.value(1));
        c.same("P15 the next one", 1, x.next());
    }

    /** Promise 15; Terms: "A counter takes the act that is topmost then, if there is one, off the stack". */
    private static void counters(Check c) {
        SpeedTurns x = game(5, 50);
        x.next();
        x.act(0, 0, 3, 10);
        x.act(1, 3, 3, 1);
        x.act(2, 3, 3, 1);
        c.same("P15 a countered counter", 2, x.settle());
        c.same("P15 the strike happened", 40, x.fighter(3, 2));
        x.act(0, 0, 0, 50);
        x.act(3, 0, 2, 50);
        c.same("P15 both fall", 2, x.settle());
        c.same("P15 the turn is over", NONE, x.value(4));
        x.next();
        x.act(1, 0, 3, 1);
        c.yes("P9 who began a turn is ready again", x.fighter(1, 4) == 1 && x.fighter(3, 4) == 0);
        x.act(4, 3, 0, 1);
        c.same("P15 a counter's fallen target does not matter", 1, x.settle());
        c.same("P15 the strike was taken off", 40, x.fighter(3, 2));
    }

    /** Promise 15; Terms: "n is reduced by the powers of all shields on it, but not below 0". */
    private static void shields(Check c) {
        SpeedTurns x = game(2, 50);
        x.next();
        x.cast(0, 1, 3, 7, 20, 0);
        x.settle();
        x.cast(0, 1, 3, 5, 20, 0);
        x.settle();
        x.act(0, 0, 1, 20);
        x.settle();
        c.same("P15 reduced by both", 42, x.fighter(1, 2));
        x.act(0, 0, 1, 11);
        c.same("P15 a harm of 0 happens", 1, x.settle());
        c.same("P15 not below 0", 42, x.fighter(1, 2));
        x.act(0, 0, 0, 20);
        x.settle();
        c.same("P15 the other one's shields do not help", 30, x.fighter(0, 2));
    }

    /** Promise 15; Terms: "An effect that would be the 31st (when the one that its source held has ended)". */
    private static void manyEffects(Check c) {
        SpeedTurns x = game(2, 50);
        x.next();
        for (int i = 0; i < 29; i++) {
            x.cast(0, 1, 1, 1, 20, 0);
            x.settle();
        }
        x.cast(0, 1, 2, 1, 20, 1);
        x.settle();
        c.same("P15 thirty", 30, x.value(2));
        x.cast(0, 1, 1, 1, 20, 2);
        c.same("P15 the 31st happens", 1, x.settle());
        c.same("P15 but does not begin", 30, x.value(2));
        c.same("P15 nor does it end", 0, x.value(8));
        x.cast(0, 1, 4, 1, 20, 3);
        x.settle();
        c.same("P15 the held one gave way", 30, x.value(2));
        c.same("P15 the new one is the last", 29, x.fighter(0, 7));
        c.same("P15 one ended", 1, x.value(8));
        x.act(0, 0, 0, 1);
        x.cast(1, 0, 4, 1, 20, 3);
        x.settle();
        c.same("P15 another's 31st does not begin", NONE, x.fighter(1, 7));
        c.same("P15 and takes nothing away", 29, x.fighter(0, 7));
    }

    /** Promise 16: "0 for the topmost one, and so on downward", and its refusals. */
    private static void stacked(Check c) {
        SpeedTurns x = game(3, 50);
        c.fails("P16 no stack", x, INDEX, () -> x.stacked(0, 0));
        x.next();
        x.cast(0, 2, 4, 20, 11, 3);
        x.act(1, 1, 0, 60);
        x.act(2, 3, 1, 9);
        int[][] due = {{3, 2, 1, 9}, {1, 1, 0, 60}, {2, 0, 2, 20}};
        for (int index = 0; index < due.length; index++) {
            for (int what = 0; what <= 3; what++) {
                c.same("P16 act " + index + " what " + what, due[index][what], x.stacked(index, what));
            }
        }
        c.fails("P16 index -1", x, INDEX, () -> x.stacked(-1, 0));
        c.fails("P16 index 3, before what", x, INDEX, () -> x.stacked(3, 4));
        c.fails("P16 what -1", x, ARGUMENT, () -> x.stacked(0, -1));
        c.fails("P16 what 4", x, ARGUMENT, () -> x.stacked(0, 4));
    }

    /** Promise 17: "Returns whether act() by it would be possible as an answer." */
    private static void mayAnswer(Check c) {
        SpeedTurns x = game(3, 50);
        c.fails("P17 fighter -1", x, INDEX, () -> x.mayAnswer(-1));
        c.fails("P17 fighter 3", x, INDEX, () -> x.mayAnswer(3));
        c.no("P17 no turn", x.mayAnswer(0));
        x.next();
        c.no("P17 an empty stack", x.mayAnswer(1));
        x.act(0, 0, 2, 50);
        c.no("P17 the actor of the topmost act", x.mayAnswer(0));
        c.yes("P17 another", x.mayAnswer(1));
        x.act(1, 0, 2, 1);
        c.no("P17 not ready", x.mayAnswer(1));
        c.yes("P17 who has the turn", x.mayAnswer(0));
        x.settle();
        x.act(0, 0, 0, 1);
        c.no("P17 the fallen", x.mayAnswer(2));
    }
}
