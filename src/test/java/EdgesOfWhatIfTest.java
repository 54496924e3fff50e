/** The boundaries of promises 18 to 21, sentence by sentence: upcoming, goneAfter, lifeSettled, vigor. */
public final class EdgesOfWhatIfTest extends Edges {

    public static void main(String[] args) throws ReflectiveOperationException {
        new EdgesOfWhatIfTest().run();
    }

    /** Acts on the stack that would make fighter 1 and then the turn's fighter fall. */
    private static SpeedTurns deadlyStack() {
        SpeedTurns x = inTurn(3, 50);
        x.act(0, HEAL, 2, 1);
        x.act(1, STRIKE, 0, 50);
        x.act(2, STRIKE, 1, 20);
        return x;
    }

    /** Fighter 1 would fall in its second turn from now, and fighter 0 in its third. */
    private static SpeedTurns poisoned() {
        SpeedTurns x = inTurn(2, 30);
        begin(x, 1, POISON, 15, 20, BY_TARGET);
        begin(x, 0, POISON, 10, 20, BY_TARGET);
        return x;
    }

    private void upcomingIs(String what, SpeedTurns x, int... due) {
        for (int index = 0; index < due.length; index++) {
            same(what + ", index " + index, due[index], x.upcoming(index));
        }
    }

    // ---- promise 18: upcoming

    @Holds(promise = 18, says = "0 for the next turn, 1 for the one behind it, and so on, up to 40")
    void fromTheNextTurnUpTo40() {
        SpeedTurns x = game(3, 50);
        for (int index = 0; index <= 40; index++) {
            same("before round 1, index " + index, index % 3, x.upcoming(index));
        }
        x.next();
        for (int index = 0; index <= 40; index++) {
            same("within a turn, index " + index, (index + 1) % 3, x.upcoming(index));
        }
        SpeedTurns one = game(1, 50);
        same("one alone", 0, one.upcoming(40));
    }

    @Holds(promise = 18, says = "0 for the next turn, 1 for the one behind it, and so on, up to 40")
    void theTurnsComeAsTheyWereTold() {
        SpeedTurns x = inTurn(3, 200);
        begin(x, 2, HASTE, 20, 2, BY_TARGET);
        begin(x, 1, POISON, 20, 20, BY_TARGET);
        begin(x, 0, STUN, 1, 3, BY_TARGET);
        int[] told = new int[41];
        for (int index = 0; index <= 40; index++) {
            told[index] = x.upcoming(index);
        }
        x.end();
        for (int index = 0; index <= 40; index++) {
            same("turn " + index, x.next(), told[index]);
            if (x.value(4) != NONE) {
                x.end();
            }
        }
    }

    @Holds(promise = 18, says = "on a copy, the stack is cleared, the present turn ends, and next() and, "
            + "where a turn goes on, end() follow each other")
    void theStackIsClearedOnTheCopyOnly() {
        upcomingIs("who would fall by the stack", deadlyStack(), 1, 2, 0, 1);
        leaves("the copy alone changes", EdgesOfWhatIfTest::deadlyStack, 1, x -> x.upcoming(40) == 2 ? 1 : 0);
    }

    @Holds(promise = 18, says = "on a copy, the stack is cleared, the present turn ends, and next() and, "
            + "where a turn goes on, end() follow each other")
    void thePresentTurnsEndCounts() {
        SpeedTurns x = inTurn(2, 50);
        begin(x, 1, HASTE, 20, 1, BY_SOURCE);
        upcomingIs("a haste that ends with the present turn", x, 1, 0, 1);
        begin(x, 1, HASTE, 20, 2, BY_SOURCE);
        upcomingIs("one that ends a round later", x, 1, 1, 0, 0, 1);
    }

    @Holds(promise = 18, says = "on a copy, the stack is cleared, the present turn ends, and next() and, "
            + "where a turn goes on, end() follow each other")
    void whereNoTurnGoesOnNoneEnds() {
        SpeedTurns x = inTurn(2, 50);
        begin(x, 1, HASTE, 20, 2, BY_SOURCE);
        x.end();
        upcomingIs("one turn of the haste is left", x, 1, 1, 0, 0, 1);
    }

    @Holds(promise = 18, says = "(a turn that is over at once counts, too)")
    void turnsThatAreOverAtOnceCount() {
        SpeedTurns x = inTurn(3, 20);
        begin(x, 1, STUN, 1, 20, BY_TARGET);
        begin(x, 2, POISON, 20, 20, BY_TARGET);
        upcomingIs("a stun, a fall", x, 1, 2, 0, 1, 0, 1);
    }

    @Holds(promise = 18, says = "Tells whose turn would be next, if the present turn ended and nobody came in.")
    void whoHasDelayedIsPassedOver() {
        SpeedTurns x = inTurn(2, 50);
        x.delay();
        upcomingIs("the other one, then a new round", x, 1, 0, 1);
        x.next();
        x.delay();
        upcomingIs("nobody waits: a new round", x, 0, 1, 0);
        x.comeIn(1);
        upcomingIs("the present turn ended", x, 0, 1, 0);
    }

    @Holds(promise = 18, says = "Tells whose turn would be next, if the present turn ended and nobody came in.")
    void whoWasAddedComesWithTheNextRound() {
        SpeedTurns x = inTurn(1, 50);
        x.add(30, 50);
        upcomingIs("the next round", x, 1, 0, 1);
    }

    @Holds(promise = 18, says = "Returns the fighter; NONE if nobody stands then.")
    void nobodyStandsThen() {
        SpeedTurns x = new SpeedTurns();
        same("no fighters", NONE, x.upcoming(0));
        same("no fighters, up to 40", NONE, x.upcoming(40));
        upcomingIs("until all have fallen", poisoned(), 1, 0, 1, 0, 0, NONE, NONE);
        same("up to 40", NONE, poisoned().upcoming(40));
        SpeedTurns fallen = inTurn(1, 50);
        strike(fallen, 0, 50);
        same("the only one has fallen", NONE, fallen.upcoming(0));
    }

    @Holds(promise = 18, says = "Throws `IllegalArgumentException` if index is not 0 to 40")
    void otherIndexesAreRefused() {
        for (int index : outside(0, 40)) {
            refuses("index " + index, () -> inTurn(2, 50), ARGUMENT, x -> x.upcoming(index));
        }
        refuses("without fighters", SpeedTurns::new, ARGUMENT, x -> x.upcoming(41));
    }

    // ---- promise 19: goneAfter

    @Holds(promise = 19, says = "`effect`: number of an effect")
    void theFirstAndTheLastEffectAreTold() {
        SpeedTurns x = inTurn(1, 50);
        for (int i = 0; i < 30; i++) {
            begin(x, 0, SHIELD, 1, 1 + i % 20, BY_SOURCE);
        }
        same("the first", 0, x.goneAfter(0));
        same("one between", 19, x.goneAfter(19));
        same("the last", 9, x.goneAfter(29));
    }

    @Holds(promise = 19, says = "Returns the number of turns that begin, 0 if it is gone when the present turn "
            + "has ended; NONE if it would be there still behind 60 turns.")
    void goneWithThePresentTurn() {
        SpeedTurns x = inTurn(2, 50);
        begin(x, 1, SHIELD, 1, 1, BY_SOURCE);
        begin(x, 0, SHIELD, 1, 1, BY_TARGET);
        begin(x, 1, SHIELD, 1, 1, BY_TARGET);
        begin(x, 1, SHIELD, 1, 2, BY_SOURCE);
        int[] due = {0, 0, 1, 2};
        for (int effect = 0; effect < due.length; effect++) {
            same("effect " + effect, due[effect], x.goneAfter(effect));
        }
        x.end();
        same("no turn goes on: the next one", 1, x.goneAfter(0));
        same("no turn goes on: the one behind it", 2, x.goneAfter(1));
    }

    @Holds(promise = 19, says = "Returns the number of turns that begin, 0 if it is gone when the present turn "
            + "has ended; NONE if it would be there still behind 60 turns.")
    void behindTurn60IsToldAndBehindTurn61IsNot() {
        SpeedTurns x = inTurn(10, 50);
        begin(x, 9, SHIELD, 1, 6, BY_TARGET);
        begin(x, 0, SHIELD, 1, 7, BY_TARGET);
        begin(x, 1, SHIELD, 1, 7, BY_TARGET);
        begin(x, 2, SHIELD, 1, 20, BY_TARGET);
        same("behind turn 59", 59, x.goneAfter(0));
        same("behind turn 60", 60, x.goneAfter(1));
        same("behind turn 61", NONE, x.goneAfter(2));
        same("much later", NONE, x.goneAfter(3));
        x.end();
        same("no turn goes on, behind turn 60", 60, x.goneAfter(1));
        same("no turn goes on, behind turn 61", NONE, x.goneAfter(2));
        x.next();
        same("one turn later", 60, x.goneAfter(2));
    }

    @Holds(promise = 19, says = "Returns the number of turns that begin, 0 if it is gone when the present turn "
            + "has ended; NONE if it would be there still behind 60 turns.")
    void goneWithAFallAsATurnBegins() {
        SpeedTurns x = poisoned();
        begin(x, 1, SHIELD, 1, 20, BY_TARGET);
        same("its target falls in turn 3", 3, x.goneAfter(2));
        same("the poison ends by it", 3, x.goneAfter(0));
        same("the other one falls in turn 5", 5, x.goneAfter(1));
    }

    @Holds(promise = 19, says = "Returns the number of turns that begin, 0 if it is gone when the present turn "
            + "has ended; NONE if it would be there still behind 60 turns.")
    void turnsThatAStunEndsCount() {
        SpeedTurns x = inTurn(2, 50);
        begin(x, 1, STUN, 1, 2, BY_TARGET);
        same("its second turn from now", 3, x.goneAfter(0));
        begin(x, 0, POISON, 10, 20, BY_SOURCE_HELD);
        same("gone with the shock of its own harm", 2, x.goneAfter(1));
    }

    @Holds(promise = 19, says = "Tells after how many further turns an effect would be gone, counted on such a copy.")
    void theStackDoesNotMatter() {
        SpeedTurns x = inTurn(2, 50);
        begin(x, 1, SHIELD, 1, 1, BY_TARGET);
        begin(x, 1, SHIELD, 1, 20, BY_SOURCE_HELD);
        x.act(0, STRIKE, 1, 60);
        x.act(1, STRIKE, 0, 20);
        same("its target would fall", 1, x.goneAfter(0));
        same("its source would be shocked", 38, x.goneAfter(1));
    }

    @Holds(promise = 19, says = "Tells after how many further turns an effect would be gone, counted on such a copy.")
    void theNumbersOfTheOthersDoNotMatter() {
        SpeedTurns x = inTurn(2, 50);
        begin(x, 1, SHIELD, 1, 1, BY_SOURCE);
        begin(x, 1, SHIELD, 2, 3, BY_SOURCE);
        begin(x, 1, SHIELD, 3, 2, BY_SOURCE);
        same("the first", 0, x.goneAfter(0));
        same("the second, whose number decreases", 4, x.goneAfter(1));
        same("the third, whose number decreases twice", 2, x.goneAfter(2));
        leaves("the copy alone changes", () -> withThirty(inTurn(2, 50), 1, SLOW, 1, 1, BY_SOURCE), 0,
                y -> y.goneAfter(29));
    }

    @Holds(promise = 19, says = "Throws `IndexOutOfBoundsException` if there is no such effect")
    void goneAfterRefusesWhatIsNotThere() {
        refuses("none at all", () -> inTurn(2, 50), INDEX, x -> x.goneAfter(0));
        for (int effect : outside(0, 1)) {
            refuses("effect " + effect, () -> {
                SpeedTurns x = inTurn(2, 50);
                begin(x, 1, HASTE, 1, 5, BY_SOURCE);
                begin(x, 1, SLOW, 1, 5, BY_SOURCE);
                return x;
            }, INDEX, x -> x.goneAfter(effect));
        }
        refuses("the 31st", () -> withThirty(inTurn(1, 50), 0, SLOW, 1, 9, BY_SOURCE), INDEX, x -> x.goneAfter(30));
    }

    // ---- promise 20: lifeSettled

    @Holds(promise = 20, says = "Returns the sum of their lives (as they are, if the stack is empty).")
    void asTheyAreIfTheStackIsEmpty() {
        same("no fighters", 0, new SpeedTurns().lifeSettled());
        same("round 0", 100, game(2, 50).lifeSettled());
        same("the most life", 2000, game(10, 200).lifeSettled());
        SpeedTurns x = inTurn(2, 50);
        strike(x, 1, 49);
        same("one has a life of 1", 51, x.lifeSettled());
        strike(x, 1, 1);
        same("one has fallen", 50, x.lifeSettled());
        strike(x, 0, 50);
        same("all have fallen", 0, x.lifeSettled());
    }

    @Holds(promise = 20, says = "Tells how much life all fighters would have if the stack were settled now.")
    void theStackIsSettledOnTheCopyOnly() {
        leaves("two lose, one falls", EdgesOfWhatIfTest::deadlyStack, 80, SpeedTurns::lifeSettled);
        SpeedTurns x = deadlyStack();
        x.settle();
        same("so it comes", 80, x.lifeSettled());
        SpeedTurns y = inTurn(2, 50);
        y.act(0, STRIKE, 1, 60);
        same("no more than the life is lost", 50, y.lifeSettled());
        y.act(1, COUNTER, 0, 1);
        same("countered", 100, y.lifeSettled());
    }

    @Holds(promise = 20, says = "Tells how much life all fighters would have if the stack were settled now.")
    void eightActsAreSettled() {
        SpeedTurns x = inTurn(8, 50);
        for (int i = 0; i < 8; i++) {
            x.act(i, STRIKE, i, 1 + i);
        }
        same("all eight", 400 - 36, x.lifeSettled());
    }

    // ---- promise 21: vigor

    @Holds(promise = 21, says = "divided by the sum of the first lives, converted to double; 0.0 without fighters.")
    void withoutFightersItIs0() {
        same("no fighters", 0.0, new SpeedTurns().vigor());
        SpeedTurns x = game(1, 1);
        same("one", 1.0, x.vigor());
        x.undo();
        same("no fighters again", 0.0, x.vigor());
    }

    @Holds(promise = 21, says = "Returns the sum of the lives, converted to double, "
            + "divided by the sum of the first lives, converted to double; 0.0 without fighters.")
    void fromTheWholeDownToNothing() {
        SpeedTurns x = inTurn(3, 1);
        same("the whole", 1.0, x.vigor());
        strike(x, 1, 1);
        same("two thirds", 2.0 / 3.0, x.vigor());
        strike(x, 2, 1);
        same("a third", 1.0 / 3.0, x.vigor());
        strike(x, 0, 1);
        same("nothing", 0.0, x.vigor());
        SpeedTurns most = inTurn(10, 200);
        same("the whole of the most", 1.0, most.vigor());
        strike(most, 9, 1);
        same("all but one", 1999.0 / 2000.0, most.vigor());
    }

    @Holds(promise = 21, says = "Returns the share of first lives that is left.")
    void theStackDoesNotMatterYet() {
        leaves("not settled", EdgesOfWhatIfTest::deadlyStack, 1, x -> x.vigor() == 1.0 ? 1 : 0);
    }
}
