/** Promises 18 to 21: upcoming, goneAfter, lifeSettled, vigor. */
public final class WhatIfTest {

    private static final Class<IndexOutOfBoundsException> INDEX = IndexOutOfBoundsException.class;
    private static final Class<IllegalArgumentException> ARGUMENT = IllegalArgumentException.class;
    private static final int NONE = SpeedTurns.NONE;

    public static void main(String[] args) {
        Check c = new Check("WhatIfTest");
        upcoming(c);
        upcomingCountsDown(c);
        upcomingFall(c);
        goneAfter(c);
        goneMuchLater(c);
        lifeSettled(c);
        vigor(c);
        c.finish();
    }

    private static SpeedTurns game(int fighters, int life) {
        SpeedTurns x = new SpeedTurns();
        for (int i = 0; i < fighters; i++) {
            x.add(20 - i, life);
        }
        return x;
    }

    private static void begin(SpeedTurns x, int fighter, int target, int effect, int power, int turns, int how) {
        x.cast(fighter, target, effect, power, turns, how);
        x.settle();
    }

    /** Promise 18: "0 for the next turn, 1 for the one behind it, and so on, up to 40". */
    private static void upcoming(Check c) {
        SpeedTurns x = game(3, 100);
        c.fails("P18 index -1", x, ARGUMENT, () -> x.upcoming(-1));
        c.fails("P18 index 41", x, ARGUMENT, () -> x.upcoming(41));
        for (int i = 0; i <= 40; i++) {
            c.same("P18 before the first round, " + i, i % 3, x.upcoming(i));
        }
        x.next();
        x.act(0, 0, 1, 60);
        long before = x.digest();
        c.same("P18 the present turn ends", 1, x.upcoming(0));
        c.same("P18 the farthest", 2, x.upcoming(40));
        c.same("P18 nothing has changed", before, x.digest());
        x.settle();
        begin(x, 0, 2, 1, 20, 1, 2);
        begin(x, 0, 2, 4, 1, 20, 0);
        c.same("P18 the list of the round stays", 2, x.upcoming(1));
        c.same("P18 a turn that is over at once counts; the haste is over", 0, x.upcoming(2));
        x.end();
        x.next();
        x.delay();
        c.same("P18 nobody comes in", 2, x.upcoming(0));
        c.same("P18 a new round", 0, x.upcoming(1));
    }

    /** Promise 18: "on a copy, the stack is cleared, the present turn ends". */
    private static void upcomingCountsDown(Check c) {
        SpeedTurns x = game(3, 100);
        x.next();
        begin(x, 0, 2, 1, 20, 1, 0);
        x.act(0, 0, 1, 60);
        c.same("P18 the haste ends with the present turn", 0, x.upcoming(2));
        x.settle();
        begin(x, 0, 2, 1, 20, 2, 0);
        c.same("P18 a longer haste does not", 2, x.upcoming(2));
        c.same("P18 but it ends with the next one", 0, x.upcoming(5));
    }

    /** Promise 18: "Returns the fighter; NONE if nobody stands then." */
    private static void upcomingFall(Check c) {
        SpeedTurns x = new SpeedTurns();
        c.same("P18 nobody", NONE, x.upcoming(0));
        x.add(5, 10);
        x.add(4, 6);
        x.next();
        begin(x, 0, 1, 0, 3, 20, 2);
        begin(x, 0, 0, 0, 10, 20, 2);
        c.same("P18 the other one", 1, x.upcoming(0));
        c.same("P18 begins its turn and falls", 0, x.upcoming(1));
        c.same("P18 the last falls", 1, x.upcoming(2));
        c.same("P18 nobody stands", NONE, x.upcoming(3));
        c.same("P18 nobody stands", NONE, x.upcoming(40));
        c.same("P18 both stand", 2, x.value(1));
        c.same("P18 round 1", 1, x.value(3));
    }

    /** Promise 19: "Returns the number of turns that begin, 0 if it is gone when the present turn has ended". */
    private static void goneAfter(Check c) {
        SpeedTurns x = game(3, 30);
        c.fails("P19 no effect", x, INDEX, () -> x.goneAfter(0));
        x.next();
        begin(x, 0, 1, 1, 1, 1, 0);
        begin(x, 0, 1, 3, 1, 1, 2);
        begin(x, 0, 2, 3, 1, 2, 2);
        begin(x, 0, 2, 3, 1, 3, 0);
        begin(x, 0, 2, 3, 1, 4, 1);
        c.fails("P19 effect -1", x, INDEX, () -> x.goneAfter(-1));
        c.fails("P19 effect 5", x, INDEX, () -> x.goneAfter(5));
        x.act(0, 0, 1, 60);
        int[] due = {0, 1, 5, 6, 9};
        long before = x.digest();
        for (int e = 0; e < due.length; e++) {
            c.same("P19 effect " + e + ", the stack does not matter", due[e], x.goneAfter(e));
        }
        c.same("P19 nothing has changed", before, x.digest());
        x.settle();
        x.end();
        int[] later = {4, 5, 7};
        c.same("P19 three are left", later.length, x.value(2));
        c.same("P19 one fewer fighter", 3, x.goneAfter(0));
        c.same("P19 one fewer fighter", 4, x.goneAfter(1));
        c.same("P19 one fewer fighter", 6, x.goneAfter(2));

        SpeedTurns y = game(2, 20);
        y.next();
        begin(y, 0, 1, 0, 7, 20, 0);
        begin(y, 0, 1, 1, 1, 20, 2);
        begin(y, 0, 0, 3, 1, 20, 3);
        c.same("P19 gone when its target falls", 5, y.goneAfter(1));
        c.same("P19 the poison is gone by the fall too", 5, y.goneAfter(0));
        c.same("P19 the other one's lasts, with the turns closer together", 22, y.goneAfter(2));
    }

    /** Promise 19: "NONE if it would be there still behind 60 turns". */
    private static void goneMuchLater(Check c) {
        SpeedTurns x = game(3, 200);
        x.next();
        begin(x, 0, 0, 1, 1, 20, 0);
        begin(x, 0, 1, 3, 1, 20, 2);
        begin(x, 0, 2, 3, 1, 20, 2);
        x.end();
        c.same("P19 19 further rounds", 57, x.goneAfter(0));
        c.same("P19 a turn of 20 rounds", 58, x.goneAfter(1));
        c.same("P19 behind turn 59", 59, x.goneAfter(2));
        SpeedTurns y = game(3, 200);
        y.next();
        y.end();
        y.next();
        begin(y, 1, 0, 3, 1, 20, 2);
        begin(y, 1, 1, 3, 1, 20, 2);
        begin(y, 1, 2, 3, 1, 20, 2);
        c.same("P19 20 turns of the first", 59, y.goneAfter(0));
        c.same("P19 19 further turns of the second", 57, y.goneAfter(1));
        c.same("P19 20 turns of the third", 58, y.goneAfter(2));
        y.add(1, 5);
        c.same("P19 there still behind 60 turns", NONE, y.goneAfter(0));

        SpeedTurns z = game(6, 200);
        z.next();
        begin(z, 0, 5, 3, 1, 10, 3);
        begin(z, 0, 0, 3, 1, 11, 2);
        begin(z, 0, 1, 3, 1, 11, 2);
        c.same("P19 turn 59", 59, z.goneAfter(0));
        c.same("P19 turn 60 just so", 60, z.goneAfter(1));
        c.same("P19 not turn 61", NONE, z.goneAfter(2));
    }

    /** Promise 20: "Returns the sum of their lives (as they are, if the stack is empty)." */
    private static void lifeSettled(Check c) {
        SpeedTurns x = new SpeedTurns();
        c.same("P20 nobody", 0, x.lifeSettled());
        x.add(9, 100);
        x.add(8, 50);
        c.same("P20 no stack", 150, x.lifeSettled());
        x.next();
        x.act(0, 0, 1, 60);
        long before = x.digest();
        c.same("P20 the harm is no more than the life", 100, x.lifeSettled());
        c.same("P20 nothing has changed", before, x.digest());
        x.act(1, 3, 0, 1);
        c.same("P20 countered", 150, x.lifeSettled());
        x.settle();
        c.same("P20 it was so", 150, x.lifeSettled());
        x.act(0, 0, 1, 20);
        x.settle();
        c.same("P20 as they are", 130, x.lifeSettled());
    }

    /** Promise 21: "divided by the sum of the first lives, converted to double; 0.0 without fighters". */
    private static void vigor(Check c) {
        SpeedTurns x = new SpeedTurns();
        c.same("P21 nobody", 0.0, x.vigor());
        x.add(9, 20);
        c.same("P21 whole", 1.0, x.vigor());
        x.add(8, 13);
        x.next();
        x.act(0, 0, 1, 6);
        x.settle();
        c.same("P21 a part", 27.0 / 33.0, x.vigor());
        x.act(0, 0, 1, 60);
        x.settle();
        c.same("P21 the fallen count", 20.0 / 33.0, x.vigor());
        x.act(0, 0, 0, 60);
        x.settle();
        c.same("P21 nothing is left", 0.0, x.vigor());
    }
}
