/** The boundaries of promises 9 to 12, sentence by sentence: next, end, delay, comeIn. */
public final class EdgesOfTurnsTest extends Edges {

    public static void main(String[] args) throws ReflectiveOperationException {
        new EdgesOfTurnsTest().run();
    }

    /** All have fallen, and no turn goes on. */
    private static SpeedTurns allFallen(int fighters) {
        SpeedTurns x = inTurn(fighters, 50);
        for (int i = 1; i < fighters; i++) {
            strike(x, i, 50);
        }
        strike(x, 0, 50);
        return x;
    }

    /** The turn of fighter 0, with an act of its own on the stack. */
    private static SpeedTurns withStack(int fighters) {
        SpeedTurns x = inTurn(fighters, 50);
        x.act(0, STRIKE, 0, 1);
        return x;
    }

    /** Fighter 0 has delayed, and the turn of fighter 1 goes on. */
    private static SpeedTurns firstDelayed(int fighters, int life) {
        SpeedTurns x = inTurn(fighters, life);
        x.delay();
        x.next();
        return x;
    }

    private static SpeedTurns cameIn(int fighters) {
        SpeedTurns x = inTurn(fighters, 50);
        x.delay();
        x.comeIn(0);
        return x;
    }

    private static SpeedTurns ended(SpeedTurns x) {
        x.end();
        return x;
    }

    // ---- promise 9: next

    @Holds(promise = 9, says = "if nobody stands then, there is no turn (the round has increased all the same)")
    void nobodyStands() {
        SpeedTurns x = new SpeedTurns();
        same("no fighters", NONE, x.next());
        values("no fighters", x, 0, 0, 0, 1, NONE, 0, 10, 0, 0);
        same("no fighters, once more", NONE, x.next());
        same("the round", 2, x.value(3));
        SpeedTurns y = allFallen(2);
        same("all have fallen", NONE, y.next());
        values("all have fallen", y, 2, 0, 0, 2, NONE, 0, 10, 1, 0);
        listIs("the list of nobody", y);
        y.add(1, 1);
        same("one more stands", 2, y.next());
        same("in a round of its own", 3, y.value(3));
    }

    @Holds(promise = 9, says = "Returns the fighter whose turn began (whether it goes on or is over already); "
            + "NONE if nobody stands.")
    void theTurnGoesOnOrIsOverAlready() {
        SpeedTurns x = inTurn(4, 20);
        begin(x, 1, STUN, 1, 20, BY_SOURCE);
        begin(x, 2, POISON, 20, 20, BY_SOURCE);
        same("stunned", 1, endAndNext(x));
        same("over already", NONE, x.value(4));
        same("poisoned to the end", 2, x.next());
        same("over already", NONE, x.value(4));
        same("neither", 3, x.next());
        same("goes on", 3, x.value(4));
    }

    @Holds(promise = 9, says = "the first fighter of the list that is waiting and stands begins its turn")
    void theFallenAreSkipped() {
        SpeedTurns x = inTurn(5, 50);
        strike(x, 1, 50);
        strike(x, 2, 50);
        strike(x, 4, 50);
        same("two between have fallen", 3, endAndNext(x));
        same("the round goes on", 1, x.value(3));
        same("the last has fallen", 0, endAndNext(x));
        same("so a new round has begun", 2, x.value(3));
    }

    @Holds(promise = 9, says = "If there is none (or the round is 0), a new round begins first: "
            + "the round increases by 1, and a new list is made")
    void theListComesRoundAgain() {
        SpeedTurns x = game(3, 50);
        for (int turn = 0; turn < 12; turn++) {
            same("turn " + turn, turn % 3, x.next());
            same("the round of turn " + turn, 1 + turn / 3, x.value(3));
            x.end();
            same("the round stays behind turn " + turn, 1 + turn / 3, x.value(3));
        }
        SpeedTurns one = inTurn(1, 50);
        same("one alone", 0, endAndNext(one));
        same("in a round of its own", 2, one.value(3));
    }

    @Holds(promise = 9, says = "(those who had delayed lose their turn of the old round)")
    void whoHasDelayedLosesItsTurn() {
        SpeedTurns x = inTurn(2, 50);
        x.delay();
        same("the other one", 1, x.next());
        x.delay();
        same("nobody waits: a new round", 0, x.next());
        same("the round", 2, x.value(3));
        same("it has its turn", 1, x.fighter(0, 5));
        same("the other one waits", 0, x.fighter(1, 5));
        same("the turns", 3, x.value(7));
    }

    private static SpeedTurns bothDelayedInTheOldRound() {
        SpeedTurns x = firstDelayed(2, 50);
        x.delay();
        x.next();
        return ended(x);
    }

    @Holds(promise = 9, says = "When a turn begins, the answer of the fighter becomes ready.")
    void onlyTheOneThatBeginsIsReadyAgain() {
        SpeedTurns x = withStack(3);
        x.act(1, HEAL, 0, 1);
        x.act(2, HEAL, 0, 1);
        x.settle();
        begin(x, 1, STUN, 1, 20, BY_SOURCE);
        endAndNext(x);
        same("even if a stun ends its turn", 1, x.fighter(1, 4));
        same("the other one is not", 0, x.fighter(2, 4));
        x.next();
        same("but with its turn", 1, x.fighter(2, 4));
    }

    @Holds(promise = 9, says = "When a turn begins, the answer of the fighter becomes ready.")
    void aNewRoundAloneMakesNobodyReady() {
        SpeedTurns x = inTurn(3, 50);
        endAndNext(x);
        endAndNext(x);
        x.act(2, HEAL, 2, 1);
        x.act(1, HEAL, 2, 1);
        x.settle();
        same("the next round", 0, endAndNext(x));
        same("it has answered in the last turn of the old one", 0, x.fighter(1, 4));
        x.delay();
        x.next();
        same("ready with its turn", 1, x.fighter(1, 4));
    }

    @Holds(promise = 9, says = "When a turn begins, the answer of the fighter becomes ready.")
    void whoFallsAsItsTurnBeginsIsReadyAllTheSame() {
        SpeedTurns x = withStack(2);
        x.act(1, HEAL, 0, 1);
        x.settle();
        withThirty(x, 1, POISON, 20, 20, BY_SOURCE);
        endAndNext(x);
        fighterIs("fallen", x, 1, 19, 50, 0, 19, 1, 1, 1, NONE, 0);
    }

    @Holds(promise = 9, says = "Then each poison on it that is still there, in order, is a harm of its power")
    void poisonLeavesALifeOf1() {
        SpeedTurns x = inTurn(2, 20);
        begin(x, 1, POISON, 19, 20, BY_SOURCE);
        endAndNext(x);
        same("its life", 1, x.fighter(1, 2));
        same("its turn goes on", 1, x.value(4));
        SpeedTurns y = inTurn(2, 20);
        begin(y, 1, POISON, 19, 20, BY_SOURCE);
        begin(y, 1, POISON, 1, 20, BY_SOURCE);
        endAndNext(y);
        same("the second one takes the last", 0, y.fighter(1, 2));
    }

    @Holds(promise = 9, says = "Then each poison on it that is still there, in order, is a harm of its power")
    void thirtyPoisonsHarm() {
        SpeedTurns x = withThirty(inTurn(2, 200), 1, POISON, 1, 20, BY_SOURCE);
        endAndNext(x);
        same("each of them", 170, x.fighter(1, 2));
        SpeedTurns y = withThirty(inTurn(2, 30), 1, POISON, 1, 20, BY_SOURCE);
        endAndNext(y);
        same("the last of them takes the last", 0, y.fighter(1, 2));
        same("the turn is over", NONE, y.value(4));
    }

    @Holds(promise = 9, says = "Then each poison on it that is still there, in order, is a harm of its power")
    void aPoisonThatAHarmHasEndedIsNotThere() {
        same("the held one is the first", 143, lifeBehindThree(BY_TARGET_HELD, BY_TARGET, BY_TARGET));
        same("the held one is the second", 162, lifeBehindThree(BY_TARGET, BY_TARGET_HELD, BY_TARGET));
        same("the held one is the last", 161, lifeBehindThree(BY_TARGET, BY_TARGET, BY_TARGET_HELD));
    }

    /** A fighter that has poisoned itself by 20, 19 and 18, in its next turn. */
    private static int lifeBehindThree(int first, int second, int third) {
        SpeedTurns x = inTurn(1, 200);
        begin(x, 0, POISON, 20, 20, first);
        begin(x, 0, POISON, 19, 20, second);
        begin(x, 0, POISON, 18, 20, third);
        endAndNext(x);
        return x.fighter(0, 2);
    }

    @Holds(promise = 9, says = "Then each poison on it that is still there, in order, is a harm of its power")
    void poisonShocksByEachLossAlone() {
        SpeedTurns x = inTurn(1, 200);
        begin(x, 0, HASTE, 1, 20, BY_TARGET_HELD);
        begin(x, 0, POISON, 9, 20, BY_TARGET);
        begin(x, 0, POISON, 9, 20, BY_TARGET);
        endAndNext(x);
        same("two losses of 9", 0, x.fighter(0, 7));
        begin(x, 0, POISON, 10, 20, BY_TARGET);
        endAndNext(x);
        same("a loss of 10", NONE, x.fighter(0, 7));
    }

    @Holds(promise = 9, says = "n is reduced by the powers of all shields on it, but not below 0 "
            + "(poison is not reduced)")
    void shieldsDoNotKeepPoisonOff() {
        SpeedTurns x = inTurn(2, 50);
        begin(x, 1, SHIELD, 20, 20, BY_SOURCE);
        begin(x, 1, POISON, 1, 20, BY_SOURCE);
        endAndNext(x);
        same("a poison of 1 behind a shield of 20", 49, x.fighter(1, 2));
    }

    @Holds(promise = 9, says = "if it falls by one, the turn is over at once "
            + "(it has had its turn, and nothing more happens)")
    void whoFallsByPoisonHasHadItsTurn() {
        SpeedTurns x = inTurn(2, 20);
        begin(x, 1, POISON, 20, 1, BY_TARGET);
        begin(x, 1, POISON, 20, 20, BY_TARGET);
        begin(x, 1, STUN, 1, 20, BY_TARGET);
        begin(x, 0, HASTE, 1, 20, BY_TARGET);
        same("who falls", 1, endAndNext(x));
        fighterIs("fallen", x, 1, 19, 20, 0, 19, 1, 1, 1, NONE, 0);
        values("no turn goes on", x, 2, 1, 1, 1, NONE, 0, 10, 2, 3);
        same("the next round", 0, x.next());
    }

    @Holds(promise = 9, says = "When a fighter falls, all effects on it end, and all effects of which it is the "
            + "source and that are held or have the clock 0 end.")
    void whatEndsWithTheOneThatFallsByPoison() {
        SpeedTurns x = inTurn(2, 20);
        for (int how = BY_SOURCE; how <= BY_TARGET_HELD; how++) {
            begin(x, 1, SHIELD, how + 1, 20, how);
        }
        begin(x, 0, POISON, 20, 20, BY_TARGET);
        endAndNext(x);
        x.end();
        same("what is held was given up once", 4, x.value(2));
        same("who falls", 0, x.next());
        same("one is left", 1, x.value(2));
        effectIs("not held, with the target's clock", x, 0, SHIELD, 3, 0, 1, 19, 1, 0);
        same("the others have ended", 4, x.value(8));
    }

    @Holds(promise = 9, says = "If it stands, and there is a stun on it, its turn ends at once, as below.")
    void aStunOfOneTurnEndsWithIt() {
        SpeedTurns x = inTurn(2, 50);
        begin(x, 1, STUN, 1, 1, BY_TARGET);
        endAndNext(x);
        same("stunned", NONE, x.value(4));
        same("the stun has ended by it", 0, x.value(2));
        x.next();
        same("the next round", 1, endAndNext(x));
        same("not stunned any more", 1, x.value(4));
    }

    @Holds(promise = 9, says = "If it stands, and there is a stun on it, its turn ends at once, as below.")
    void whoIsStunnedHasHadItsTurn() {
        SpeedTurns x = inTurn(2, 50);
        begin(x, 1, STUN, 20, 20, BY_TARGET);
        begin(x, 1, HASTE, 1, 20, BY_TARGET);
        endAndNext(x);
        same("it has had its turn", 1, x.fighter(1, 5));
        same("the stun has counted down", 19, x.effect(0, 4));
        same("so has what is behind it", 19, x.effect(1, 4));
        same("the next one", 0, x.next());
    }

    @Holds(promise = 9, says = "If it stands, and there is a stun on it, its turn ends at once, as below.")
    void allAreStunned() {
        SpeedTurns x = inTurn(2, 50);
        begin(x, 0, STUN, 1, 20, BY_TARGET);
        begin(x, 1, STUN, 1, 20, BY_TARGET);
        x.end();
        for (int turn = 1; turn < 6; turn++) {
            same("turn " + turn, turn % 2, x.next());
            same("over at once", NONE, x.value(4));
            same("the round", 1 + turn / 2, x.value(3));
        }
    }

    @Holds(promise = 9, says = "Otherwise its turn goes on, until it ends it, delays, or falls.")
    void theTurnGoesOnThroughActs() {
        SpeedTurns x = inTurn(2, 50);
        strike(x, 1, 50);
        same("the other one fell", 0, x.value(4));
        begin(x, 0, STUN, 1, 20, BY_TARGET);
        same("a stun that begins within it does not end it", 0, x.value(4));
        strike(x, 0, 49);
        same("a life of 1", 0, x.value(4));
        strike(x, 0, 1);
        same("until it falls", NONE, x.value(4));
    }

    @Holds(promise = 9, says = "Throws `IllegalStateException` if a turn goes on")
    void nextIsRefusedWithinATurn() {
        refuses("a turn has begun", () -> inTurn(2, 50), STATE, x -> x.next());
        refuses("a turn goes on again", () -> cameIn(2), STATE, x -> x.next());
        refuses("acts are on the stack", () -> withStack(2), STATE, x -> x.next());
        refuses("acts have happened", () -> {
            SpeedTurns x = withStack(2);
            x.settle();
            return x;
        }, STATE, x -> x.next());
    }

    @Holds(promise = 9, says = "Lets the next turn begin. Undoable.")
    void nextIsUndoable() {
        undoable("the first round", () -> game(2, 50), x -> x.next());
        undoable("nobody stands", SpeedTurns::new, x -> x.next());
        undoable("a new round", () -> bothDelayedInTheOldRound(), x -> x.next());
        undoable("one falls", EdgesOfTurnsTest::poisonedNext, x -> x.next());
        undoable("all are saved already", () -> allFallen(3), x -> x.next());
    }

    private static SpeedTurns poisonedNext() {
        SpeedTurns x = inTurn(2, 20);
        begin(x, 1, POISON, 20, 20, BY_SOURCE);
        return ended(x);
    }

    // ---- promise 10: end

    @Holds(promise = 10, says = "Returns the number of effects that have counted down to 0 by this.")
    void fromNoneToThirtyCountDownTo0() {
        same("no effects", 0, inTurn(2, 50).end());
        SpeedTurns x = inTurn(2, 50);
        begin(x, 1, SHIELD, 1, 2, BY_SOURCE);
        same("one turn is left", 0, x.end());
        x.next();
        x.end();
        x.next();
        same("none is left", 1, x.end());
        same("all thirty", 30, withThirty(inTurn(2, 50), 1, SHIELD, 1, 1, BY_SOURCE).end());
        same("none of thirty", 0, withThirty(inTurn(2, 50), 1, SHIELD, 1, 2, BY_SOURCE).end());
        same("none of the other's", 0, withThirty(inTurn(2, 50), 1, SHIELD, 1, 1, BY_TARGET).end());
    }

    @Holds(promise = 10, says = "with the clock 0 the turns that are left decrease by 1 whenever a turn of the source "
            + "ends, with the clock 1 whenever one of the target ends; at 0 the effect ends")
    void theClocksCountTheirFightersTurns() {
        SpeedTurns x = inTurn(3, 50);
        begin(x, 1, SHIELD, 1, 20, BY_SOURCE);
        begin(x, 1, SHIELD, 2, 20, BY_TARGET);
        x.end();
        leftAre("the source's turn", x, 19, 20);
        x.next();
        x.end();
        leftAre("the target's turn", x, 19, 19);
        x.next();
        x.end();
        leftAre("another's turn", x, 19, 19);
    }

    private void leftAre(String what, SpeedTurns x, int... due) {
        same(what + ", effects", due.length, x.value(2));
        for (int effect = 0; effect < due.length; effect++) {
            same(what + ", turns left of " + effect, due[effect], x.effect(effect, 4));
        }
    }

    @Holds(promise = 10, says = "with the clock 0 the turns that are left decrease by 1 whenever a turn of the source "
            + "ends, with the clock 1 whenever one of the target ends; at 0 the effect ends")
    void oneOnItselfCountsOnceATurn() {
        SpeedTurns x = inTurn(2, 50);
        begin(x, 0, SHIELD, 1, 2, BY_SOURCE);
        begin(x, 0, SHIELD, 1, 2, BY_TARGET);
        same("neither ends", 0, x.end());
        leftAre("once", x, 1, 1);
        x.next();
        same("the other's turn", 0, x.end());
        x.next();
        same("both end", 2, x.end());
    }

    @Holds(promise = 10, says = "with the clock 0 the turns that are left decrease by 1 whenever a turn of the source "
            + "ends, with the clock 1 whenever one of the target ends; at 0 the effect ends")
    void twentyTurnsAreTwentyEnds() {
        SpeedTurns x = inTurn(1, 50);
        begin(x, 0, SHIELD, 1, 20, BY_SOURCE);
        for (int left = 19; left >= 1; left--) {
            same("it is there still", 0, x.end());
            same("turns left", left, x.effect(0, 4));
            x.next();
        }
        same("the twentieth end", 1, x.end());
        same("it has ended", 0, x.value(2));
    }

    @Holds(promise = 10, says = "When a turn ends, the fighter has had its turn, and the effects with it as their "
            + "clock's fighter count down, in ascending order")
    void thoseThatStayKeepTheirOrder() {
        SpeedTurns x = inTurn(2, 50);
        int[] turns = {1, 2, 1, 1, 3, 1};
        for (int i = 0; i < turns.length; i++) {
            begin(x, 1, SHIELD, i + 1, turns[i], i == 3 ? BY_TARGET : BY_SOURCE);
        }
        same("three of the six", 3, x.end());
        leftAre("the others", x, 1, 1, 2);
        same("the first that stays", 2, x.effect(0, 1));
        same("the second", 4, x.effect(1, 1));
        same("the third", 5, x.effect(2, 1));
        same("it has had its turn", 1, x.fighter(0, 5));
    }

    @Holds(promise = 10, says = "Throws `IllegalStateException` if no turn goes on, or the stack is not empty")
    void endIsRefusedWithoutATurn() {
        refuses("round 0", () -> game(2, 50), STATE, x -> x.end());
        refuses("it has ended already", () -> ended(inTurn(2, 50)), STATE, x -> x.end());
        refuses("it was delayed", () -> {
            SpeedTurns x = inTurn(2, 50);
            x.delay();
            return x;
        }, STATE, x -> x.end());
        refuses("it fell in its turn", () -> allFallen(1), STATE, x -> x.end());
        refuses("it fell as its turn began", () -> {
            SpeedTurns x = poisonedNext();
            x.next();
            return x;
        }, STATE, x -> x.end());
    }

    @Holds(promise = 10, says = "Throws `IllegalStateException` if no turn goes on, or the stack is not empty")
    void endIsRefusedWhileActsAreOnTheStack() {
        refuses("one act", () -> withStack(2), STATE, x -> x.end());
        refuses("the most acts", () -> {
            SpeedTurns x = inTurn(8, 50);
            for (int i = 0; i < 8; i++) {
                x.act(i, HEAL, 0, 1);
            }
            return x;
        }, STATE, x -> x.end());
    }

    @Holds(promise = 10, says = "Ends the turn. Undoable.")
    void endIsUndoable() {
        undoable("without effects", () -> inTurn(2, 50), x -> x.end());
        undoable("thirty end", () -> withThirty(inTurn(2, 50), 1, STUN, 1, 1, BY_SOURCE), x -> x.end());
    }

    // ---- promise 11: delay

    @Holds(promise = 11, says = "Returns the fighter that has delayed.")
    void theFirstAndTheLastDelay() {
        SpeedTurns x = game(10, 50);
        for (int i = 0; i < 10; i++) {
            x.next();
            same("who delays", i, x.delay());
            same("has delayed", 2, x.fighter(i, 5));
            same("no turn goes on", NONE, x.value(4));
        }
        same("the places stay", 9, x.inList(9));
    }

    @Holds(promise = 11, says = "A fighter in whose turn no act has been begun yet can delay: "
            + "its turn is over, nothing counts down, and it has delayed.")
    void nothingCountsDownByADelay() {
        SpeedTurns x = inTurn(2, 50);
        begin(x, 1, SHIELD, 1, 2, BY_SOURCE);
        begin(x, 0, SHIELD, 1, 2, BY_TARGET);
        x.end();
        x.next();
        x.end();
        x.next();
        same("one turn is left", 1, x.effect(0, 4));
        x.delay();
        leftAre("still", x, 1, 1);
        x.comeIn(0);
        leftAre("nor when it comes in", x, 1, 1);
        same("but when it ends", 2, x.end());
    }

    @Holds(promise = 11, says = "Throws `IllegalStateException` if no turn goes on, or an act was begun in it, "
            + "or it was delayed already in this round")
    void delayIsRefusedWithoutATurn() {
        refuses("round 0", () -> game(2, 50), STATE, x -> x.delay());
        refuses("it has ended", () -> ended(inTurn(2, 50)), STATE, x -> x.delay());
        refuses("it was delayed", () -> {
            SpeedTurns x = inTurn(2, 50);
            x.delay();
            return x;
        }, STATE, x -> x.delay());
        refuses("it has fallen", () -> allFallen(1), STATE, x -> x.delay());
    }

    @Holds(promise = 11, says = "Throws `IllegalStateException` if no turn goes on, or an act was begun in it, "
            + "or it was delayed already in this round")
    void delayIsRefusedBehindTheFirstAct() {
        refuses("a strike is on the stack", () -> withStack(2), STATE, x -> x.delay());
        refuses("it has happened", () -> {
            SpeedTurns x = withStack(2);
            x.settle();
            return x;
        }, STATE, x -> x.delay());
        refuses("a cast is on the stack", () -> {
            SpeedTurns x = inTurn(2, 50);
            x.cast(0, 1, STUN, 1, 1, BY_SOURCE);
            return x;
        }, STATE, x -> x.delay());
        refuses("it was taken off", () -> {
            SpeedTurns x = withStack(2);
            x.act(1, COUNTER, 0, 1);
            x.settle();
            return x;
        }, STATE, x -> x.delay());
    }

    @Holds(promise = 11, says = "A fighter in whose turn no act has been begun yet can delay")
    void answersInOtherTurnsAreNoActsOfItsOwn() {
        SpeedTurns x = withStack(2);
        x.act(1, HEAL, 0, 1);
        x.settle();
        endAndNext(x);
        same("it has answered in another's turn", 1, x.delay());
    }

    @Holds(promise = 11, says = "Throws `IllegalStateException` if no turn goes on, or an act was begun in it, "
            + "or it was delayed already in this round")
    void delayIsRefusedBehindADelayOfThisRound() {
        refuses("it has come in", () -> cameIn(2), STATE, x -> x.delay());
        refuses("the others' turns lie between", () -> {
            SpeedTurns x = ended(firstDelayed(2, 50));
            x.comeIn(0);
            return x;
        }, STATE, x -> x.delay());
    }

    @Holds(promise = 11, says = "or it was delayed already in this round")
    void inTheNextRoundItCanDelayAgain() {
        SpeedTurns x = cameIn(1);
        same("the next round", 0, endAndNext(x));
        same("it delays", 0, x.delay());
        same("it loses that turn", 0, x.next());
        same("and delays again", 0, x.delay());
        SpeedTurns y = firstDelayed(2, 50);
        same("the one behind it delays, too", 1, y.delay());
    }

    @Holds(promise = 11, says = "Delays the turn. Undoable.")
    void delayIsUndoable() {
        undoable("the first", () -> inTurn(2, 50), x -> x.delay());
        undoable("the last", () -> firstDelayed(2, 50), x -> x.delay());
    }

    // ---- promise 12: comeIn

    @Holds(promise = 12, says = "`fighter`: number of a fighter")
    void theFirstAndTheLastComeIn() {
        SpeedTurns x = game(10, 50);
        for (int i = 0; i < 10; i++) {
            x.next();
            x.delay();
        }
        same("the last stays behind itself", 9, x.comeIn(9));
        x.end();
        same("the first goes to the end", 9, x.comeIn(0));
        listIs("the list", x, 1, 2, 3, 4, 5, 6, 7, 8, 9, 0);
    }

    @Holds(promise = 12, says = "Returns its place in the list then.")
    void thePlaceBehindTheLatestTurn() {
        SpeedTurns x = firstDelayed(4, 50);
        x.end();
        same("behind the second", 1, x.comeIn(0));
        listIs("the list", x, 1, 0, 2, 3);
        same("the next one", 2, endAndNext(x));
        same("the one behind it", 3, endAndNext(x));
    }

    @Holds(promise = 12, says = "its old place is given up, those between move up; "
            + "if that was itself, its place stays")
    void behindItselfThePlaceStays() {
        SpeedTurns x = inTurn(3, 50);
        x.delay();
        same("the first", 0, x.comeIn(0));
        listIs("the list", x, 0, 1, 2);
        x.end();
        x.next();
        endAndNext(x);
        x.delay();
        same("the last", 2, x.comeIn(2));
        listIs("the list", x, 0, 1, 2);
    }

    @Holds(promise = 12, says = "right behind that of the fighter whose turn began or went on latest "
            + "(also if that one has fallen or has delayed;")
    void behindOneThatHasFallen() {
        SpeedTurns x = firstDelayed(3, 50);
        strike(x, 1, 50);
        same("in its turn", 1, x.comeIn(0));
        listIs("the list", x, 1, 0, 2);
        SpeedTurns y = inTurn(4, 20);
        begin(y, 2, POISON, 20, 20, BY_TARGET);
        y.end();
        y.next();
        y.delay();
        same("who falls as its turn begins", 2, y.next());
        same("behind it", 2, y.comeIn(1));
        listIs("the list", y, 0, 2, 1, 3);
    }

    @Holds(promise = 12, says = "right behind that of the fighter whose turn began or went on latest "
            + "(also if that one has fallen or has delayed;")
    void behindOneThatHasDelayed() {
        SpeedTurns x = firstDelayed(4, 50);
        x.delay();
        same("behind the second", 1, x.comeIn(0));
        listIs("the list", x, 1, 0, 2, 3);
        x.end();
        same("behind one that went on latest", 1, x.comeIn(1));
        listIs("the list then", x, 0, 1, 2, 3);
    }

    @Holds(promise = 12, says = "right behind that of the fighter whose turn began or went on latest "
            + "(also if that one has fallen or has delayed;")
    void behindOneThatIsStunned() {
        SpeedTurns x = inTurn(4, 50);
        begin(x, 2, STUN, 1, 20, BY_TARGET);
        endAndNext(x);
        x.delay();
        same("stunned", 2, x.next());
        same("behind it", 2, x.comeIn(1));
        listIs("the list", x, 0, 2, 1, 3);
    }

    @Holds(promise = 12, says = "its turn goes on at once (poison, stun and the answer do not come once more)")
    void nothingComesOnceMore() {
        SpeedTurns x = inTurn(3, 50);
        x.end();
        x.next();
        x.delay();
        x.next();
        x.act(2, STRIKE, 2, 1);
        x.act(1, HEAL, 2, 1);
        x.settle();
        begin(x, 1, POISON, 20, 20, BY_TARGET);
        begin(x, 1, STUN, 20, 20, BY_TARGET);
        x.end();
        x.comeIn(1);
        same("its turn goes on", 1, x.value(4));
        fighterIs("no poison, no answer", x, 1, 19, 50, 50, 19, 0, 1, 2, NONE, 2);
        leftAre("nothing has counted down", x, 20, 20);
        same("it can act", 1, x.act(1, STRIKE, 2, 1));
    }

    @Holds(promise = 12, says = "Throws `IndexOutOfBoundsException` if there is no such fighter")
    void nobodyComesIn() {
        for (int fighter : outside(0, 1)) {
            refuses("fighter " + fighter, () -> ended(firstDelayed(2, 50)), INDEX, x -> x.comeIn(fighter));
        }
        refuses("an eleventh", () -> ended(firstDelayed(10, 50)), INDEX, x -> x.comeIn(10));
    }

    @Holds(promise = 12, says = "Throws `IllegalStateException` if a turn goes on, "
            + "or the fighter has not delayed in this round, or has fallen")
    void comeInIsRefusedWhileATurnGoesOn() {
        refuses("another's", () -> firstDelayed(2, 50), STATE, x -> x.comeIn(0));
        refuses("its own", () -> cameIn(2), STATE, x -> x.comeIn(0));
    }

    @Holds(promise = 12, says = "Throws `IllegalStateException` if a turn goes on, "
            + "or the fighter has not delayed in this round, or has fallen")
    void comeInIsRefusedWithoutADelay() {
        refuses("round 0", () -> game(2, 50), STATE, x -> x.comeIn(0));
        refuses("waiting", () -> ended(inTurn(2, 50)), STATE, x -> x.comeIn(1));
        refuses("it has had its turn", () -> ended(inTurn(2, 50)), STATE, x -> x.comeIn(0));
        refuses("it has come in already", () -> ended(cameIn(2)), STATE, x -> x.comeIn(0));
        refuses("not in the list yet", () -> {
            SpeedTurns x = ended(firstDelayed(2, 50));
            x.add(5, 50);
            return x;
        }, STATE, x -> x.comeIn(2));
        refuses("delayed in the old round", EdgesOfTurnsTest::bothDelayedInTheOldRound, STATE, x -> x.comeIn(1));
    }

    @Holds(promise = 12, says = "Throws `IllegalStateException` if a turn goes on, "
            + "or the fighter has not delayed in this round, or has fallen")
    void theFallenDoNotComeIn() {
        refuses("it fell while it had delayed", () -> {
            SpeedTurns x = firstDelayed(2, 50);
            strike(x, 0, 50);
            return ended(x);
        }, STATE, x -> x.comeIn(0));
        SpeedTurns y = firstDelayed(2, 50);
        strike(y, 0, 49);
        y.end();
        same("with a life of 1 it comes in", 1, y.comeIn(0));
    }

    @Holds(promise = 12, says = "If several exceptions apply, the one that is listed first is thrown.")
    void comeInLooksAtTheFighterFirst() {
        refuses("fighter 2 while a turn goes on", () -> firstDelayed(2, 50), INDEX, x -> x.comeIn(2));
        refuses("fighter -1 while a turn goes on", () -> firstDelayed(2, 50), INDEX, x -> x.comeIn(-1));
    }

    @Holds(promise = 12, says = "Lets a fighter that has delayed come in. Undoable.")
    void comeInIsUndoable() {
        undoable("from the first place", () -> ended(firstDelayed(3, 50)), x -> x.comeIn(0));
        undoable("behind itself", () -> {
            SpeedTurns x = inTurn(2, 50);
            x.delay();
            return x;
        }, x -> x.comeIn(0));
    }
}
