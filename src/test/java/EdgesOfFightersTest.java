/** The boundaries of promises 1 to 8, sentence by sentence: a new object, fighters, effects, values, the list. */
public final class EdgesOfFightersTest extends Edges {

    public static void main(String[] args) throws ReflectiveOperationException {
        new EdgesOfFightersTest().run();
    }

    private static SpeedTurns tenFighters() {
        return game(10, 50);
    }

    /** Fighter 1 has fallen, in the turn of fighter 0. */
    private static SpeedTurns oneFallen(int fighters) {
        SpeedTurns x = inTurn(fighters, 50);
        strike(x, 1, 50);
        return x;
    }

    // ---- promise 1: a new object

    @Holds(promise = 1, says = "Creates a game without fighters, in round 0.")
    void nothingIsThereYet() {
        SpeedTurns x = new SpeedTurns();
        values("a new object", x, 0, 0, 0, 0, NONE, 0, 10, 0, 0);
        same("no life", 0, x.lifeSettled());
        same("no vigor", 0.0, x.vigor());
        same("no turn is next", NONE, x.upcoming(0));
        same("nor the last that can be asked for", NONE, x.upcoming(40));
        same("no text", 0, x.clearText());
    }

    @Holds(promise = 1, says = "Creates a game without fighters, in round 0.")
    void whatNeedsAFighterIsRefused() {
        refuses("setSpeed", SpeedTurns::new, INDEX, x -> x.setSpeed(0, 1));
        refuses("fighter", SpeedTurns::new, INDEX, x -> x.fighter(0, 0));
        refuses("effect", SpeedTurns::new, INDEX, x -> x.effect(0, 0));
        refuses("inList", SpeedTurns::new, INDEX, x -> x.inList(0));
        refuses("comeIn", SpeedTurns::new, INDEX, x -> x.comeIn(0));
        refuses("act", SpeedTurns::new, INDEX, x -> x.act(0, STRIKE, 0, 1));
        refuses("cast", SpeedTurns::new, INDEX, x -> x.cast(0, 0, POISON, 1, 1, BY_SOURCE));
        refuses("stacked", SpeedTurns::new, INDEX, x -> x.stacked(0, 0));
        refuses("mayAnswer", SpeedTurns::new, INDEX, x -> x.mayAnswer(0));
        refuses("goneAfter", SpeedTurns::new, INDEX, x -> x.goneAfter(0));
    }

    @Holds(promise = 1, says = "The round is initially 0, and no turn goes on.")
    void whatNeedsATurnIsRefused() {
        refuses("end", SpeedTurns::new, STATE, x -> x.end());
        refuses("delay", SpeedTurns::new, STATE, x -> x.delay());
        refuses("settle", SpeedTurns::new, STATE, x -> x.settle());
        same("the round", 0, new SpeedTurns().value(3));
        same("the turn", NONE, new SpeedTurns().value(4));
    }

    @Holds(promise = 1, says = "Creates a game without fighters, in round 0.")
    void noStateIsSavedYet() {
        refuses("undo", SpeedTurns::new, STATE, x -> x.undo());
    }

    @Holds(promise = 1, says = "The constants: `NONE = -1`: There is no such thing.")
    void noneIsMinusOne() {
        same("the constant", -1, SpeedTurns.NONE);
    }

    @Holds(promise = 1, says = "An object is used for at most 512 calls after it has been made")
    void theLastOf512CallsIsAnsweredAsTheFirst() {
        SpeedTurns x = new SpeedTurns();
        x.add(30, 200);
        for (int turns = 1; turns <= 255; turns++) {
            same("the turn", 0, x.next());
            same("no effect", 0, x.end());
        }
        same("call 512", 255, x.value(7));

        SpeedTurns nobody = new SpeedTurns();
        for (int round = 1; round <= 511; round++) {
            same("nobody stands", NONE, nobody.next());
        }
        same("call 512", 511, nobody.value(3));
    }

    // ---- promise 2: add

    @Holds(promise = 2, says = "Adds a fighter; it is in the list from the next round on.")
    void inRoundZeroItIsInNoList() {
        SpeedTurns x = game(1, 50);
        same("its state", NONE, x.fighter(0, 5));
        same("its place", NONE, x.fighter(0, 6));
        same("its turn comes with the first round", 0, x.next());
        same("its place then", 0, x.fighter(0, 6));
    }

    @Holds(promise = 2, says = "Adds a fighter; it is in the list from the next round on.")
    void withinARoundItIsInTheNextList() {
        SpeedTurns x = game(1, 50);
        x.next();
        x.add(30, 50);
        listIs("added while a turn goes on", x, 0);
        same("its state", NONE, x.fighter(1, 5));
        x.end();
        x.add(29, 50);
        listIs("added behind the last turn", x, 0);
        same("the next round", 1, x.next());
        listIs("the next round", x, 1, 2, 0);
    }

    @Holds(promise = 2, says = "`speed`: 1 to 30")
    void speedsFrom1To30AreTaken() {
        SpeedTurns x = new SpeedTurns();
        for (int i = 0; i < 10; i++) {
            int speed = i % 2 == 0 ? 1 : 30;
            x.add(speed, 50);
            same("the speed", speed, x.fighter(i, 0));
        }
    }

    @Holds(promise = 2, says = "`life`: 1 to 200")
    void livesFrom1To200AreTaken() {
        SpeedTurns x = new SpeedTurns();
        for (int i = 0; i < 10; i++) {
            int life = i % 2 == 0 ? 1 : 200;
            x.add(5, life);
            same("the first life", life, x.fighter(i, 1));
            same("the life", life, x.fighter(i, 2));
        }
        same("all stand", 10, x.value(1));
    }

    @Holds(promise = 2, says = "Returns the number of the fighter.")
    void numbersGoFrom0To9() {
        SpeedTurns x = new SpeedTurns();
        for (int i = 0; i < 10; i++) {
            same("the number", i, x.add(1, 1));
        }
    }

    @Holds(promise = 2, says = "There are at most 10 fighters, numbered from 0.")
    void theTenthIsTakenAndIsInTheList() {
        SpeedTurns x = game(9, 50);
        same("the tenth", 9, x.add(1, 50));
        same("ten", 10, x.value(0));
        x.next();
        listIs("all of them", x, 0, 1, 2, 3, 4, 5, 6, 7, 8, 9);
    }

    @Holds(promise = 2, says = "and an answer that is ready or not (initially ready)")
    void itsAnswerIsReadyAtFirst() {
        SpeedTurns x = inTurn(2, 50);
        x.act(0, STRIKE, 0, 1);
        same("added while acts are on the stack", 2, x.add(1, 1));
        same("ready", 1, x.fighter(2, 4));
        yes("it may answer at once", x.mayAnswer(2));
        same("and answers, though it is not in the list", 2, x.act(2, HEAL, 0, 1));
    }

    @Holds(promise = 2, says = "Throws `IllegalArgumentException` if speed or life is out of range")
    void otherSpeedsAndLivesAreRefused() {
        for (int speed : outside(1, 30)) {
            refuses("speed " + speed, () -> inTurn(2, 50), ARGUMENT, x -> x.add(speed, 50));
        }
        for (int life : outside(1, 200)) {
            refuses("life " + life, () -> inTurn(2, 50), ARGUMENT, x -> x.add(5, life));
        }
        refuses("both", SpeedTurns::new, ARGUMENT, x -> x.add(0, 201));
    }

    @Holds(promise = 2, says = "Throws `IllegalStateException` if there are 10 fighters")
    void anEleventhIsRefused() {
        refuses("an eleventh", EdgesOfFightersTest::tenFighters, STATE, x -> x.add(1, 1));
        refuses("the fallen count", () -> oneFallen(10), STATE, x -> x.add(30, 200));
    }

    @Holds(promise = 2, says = "If several exceptions apply, the one that is listed first is thrown.")
    void theArgumentComesBeforeTheNumber() {
        refuses("speed 31, an eleventh", EdgesOfFightersTest::tenFighters, ARGUMENT, x -> x.add(31, 50));
        refuses("life 0, an eleventh", EdgesOfFightersTest::tenFighters, ARGUMENT, x -> x.add(5, 0));
    }

    @Holds(promise = 2, says = "it is in the list from the next round on. Undoable.")
    void addIsUndoable() {
        undoable("the first", SpeedTurns::new, x -> x.add(1, 1));
        undoable("the tenth", () -> game(9, 50), x -> x.add(30, 200));
        SpeedTurns x = tenFighters();
        x.undo();
        same("there is room again", 9, x.add(1, 1));
    }

    // ---- promise 3: setSpeed

    @Holds(promise = 3, says = "`fighter`: number of a fighter")
    void theFirstAndTheLastFighterHaveSpeeds() {
        SpeedTurns x = tenFighters();
        x.setSpeed(0, 3);
        x.setSpeed(9, 4);
        same("the first", 3, x.fighter(0, 0));
        same("the last", 4, x.fighter(9, 0));
        same("one between stays", 19, x.fighter(1, 0));
        SpeedTurns y = oneFallen(2);
        same("the fallen is one, too", 19, y.setSpeed(1, 2));
    }

    @Holds(promise = 3, says = "`speed`: 1 to 30")
    void setSpeedTakes1And30() {
        SpeedTurns x = game(1, 50);
        x.setSpeed(0, 1);
        same("the least", 1, x.fighter(0, 0));
        x.setSpeed(0, 30);
        same("the greatest", 30, x.fighter(0, 0));
    }

    @Holds(promise = 3, says = "Sets the speed of a fighter. (The list of the round stays.) Undoable.")
    void theListStaysForThisRound() {
        SpeedTurns x = inTurn(3, 50);
        x.setSpeed(2, 30);
        x.setSpeed(0, 1);
        listIs("the list", x, 0, 1, 2);
        same("the next turn", 1, endAndNext(x));
        same("the last turn", 2, endAndNext(x));
        same("the next round", 2, endAndNext(x));
        listIs("the next list", x, 2, 1, 0);
    }

    @Holds(promise = 3, says = "Sets the speed of a fighter. (The list of the round stays.) Undoable.")
    void theListStaysBetweenTheTurns() {
        SpeedTurns x = inTurn(3, 50);
        x.delay();
        x.setSpeed(2, 30);
        x.setSpeed(1, 1);
        listIs("the list", x, 0, 1, 2);
        same("who has delayed", 2, x.fighter(0, 5));
        same("who waits", 0, x.fighter(2, 5));
        same("the next turn", 1, x.next());
        same("who has delayed comes in", 1, ended(x).comeIn(0));
        same("the last turn", 2, endAndNext(x));
        listIs("the list at last", x, 1, 0, 2);
    }

    private static SpeedTurns ended(SpeedTurns x) {
        x.end();
        return x;
    }

    @Holds(promise = 3, says = "Returns the previous speed.")
    void setSpeedAnswersTheSpeedBefore() {
        SpeedTurns x = new SpeedTurns();
        x.add(1, 50);
        same("the first", 1, x.setSpeed(0, 30));
        same("the second", 30, x.setSpeed(0, 30));
        same("the same once more", 30, x.setSpeed(0, 1));
        x.next();
        begin(x, 0, HASTE, 20, 20, BY_SOURCE);
        same("not the present one", 1, x.setSpeed(0, 2));
    }

    @Holds(promise = 3, says = "Throws `IndexOutOfBoundsException` if there is no such fighter")
    void setSpeedOfNobodyIsRefused() {
        for (int fighter : outside(0, 1)) {
            refuses("fighter " + fighter, () -> inTurn(2, 50), INDEX, x -> x.setSpeed(fighter, 5));
        }
        refuses("an eleventh", EdgesOfFightersTest::tenFighters, INDEX, x -> x.setSpeed(10, 5));
    }

    @Holds(promise = 3, says = "Throws `IllegalArgumentException` if speed is out of range")
    void setSpeedRefusesOtherSpeeds() {
        for (int speed : outside(1, 30)) {
            refuses("speed " + speed, () -> inTurn(2, 50), ARGUMENT, x -> x.setSpeed(1, speed));
        }
    }

    @Holds(promise = 3, says = "If several exceptions apply, the one that is listed first is thrown.")
    void setSpeedLooksAtTheFighterFirst() {
        refuses("fighter 2, speed 0", () -> game(2, 50), INDEX, x -> x.setSpeed(2, 0));
        refuses("fighter -1, speed 31", () -> game(2, 50), INDEX, x -> x.setSpeed(-1, 31));
    }

    @Holds(promise = 3, says = "saves the state from before the call, even if the call changes nothing")
    void setSpeedIsUndoable() {
        undoable("another speed", () -> game(2, 50), x -> x.setSpeed(1, 30));
        undoable("the same speed", () -> game(2, 50), x -> x.setSpeed(1, 19));
    }

    // ---- promise 4: setShock

    @Holds(promise = 4, says = "`shock`: 1 to 200")
    void setShockTakes1And200() {
        SpeedTurns x = new SpeedTurns();
        x.setShock(1);
        same("the least", 1, x.value(6));
        x.setShock(200);
        same("the greatest", 200, x.value(6));
    }

    @Holds(promise = 4, says = "Returns the previous shock.")
    void setShockAnswersTheShockBefore() {
        SpeedTurns x = new SpeedTurns();
        same("initially", 10, x.setShock(200));
        same("the greatest", 200, x.setShock(200));
        same("the same once more", 200, x.setShock(1));
        same("the least", 1, x.setShock(10));
    }

    @Holds(promise = 4, says = "(1 to 200, initially 10) stops holding: the effect that it holds ends.")
    void aLossOfTheShockStopsHolding() {
        same("initially, a loss of 9", 0, holdAfter(10, 9, 200));
        same("initially, a loss of 10", NONE, holdAfter(10, 10, 200));
        same("shock 1, a loss of 1", NONE, holdAfter(1, 1, 200));
        same("shock 60, a loss of 59", 0, holdAfter(60, 59, 200));
        same("shock 60, a loss of 60", NONE, holdAfter(60, 60, 200));
        same("shock 61, the greatest strike", 0, holdAfter(61, 60, 200));
    }

    /** What fighter 0 holds still when it has been struck. */
    private static int holdAfter(int shock, int power, int life) {
        SpeedTurns x = inTurn(1, life);
        x.setShock(shock);
        begin(x, 0, HASTE, 1, 20, BY_SOURCE_HELD);
        strike(x, 0, power);
        return x.fighter(0, 7);
    }

    @Holds(promise = 4, says = "(1 to 200, initially 10) stops holding: the effect that it holds ends.")
    void aLossOfNothingStopsNoHolding() {
        SpeedTurns x = inTurn(1, 200);
        x.setShock(1);
        begin(x, 0, SHIELD, 5, 20, BY_SOURCE_HELD);
        strike(x, 0, 5);
        same("a loss of 0", 0, x.fighter(0, 7));
        strike(x, 0, 6);
        same("a loss of 1", NONE, x.fighter(0, 7));
    }

    @Holds(promise = 4, says = "(1 to 200, initially 10) stops holding: the effect that it holds ends.")
    void theGreatestShockIsReachedByNoLossThatIsSurvived() {
        SpeedTurns x = inTurn(1, 200);
        x.setShock(200);
        for (int i = 0; i < 9; i++) {
            begin(x, 0, POISON, 20, 20, BY_TARGET);
        }
        begin(x, 0, POISON, 19, 20, BY_TARGET_HELD);
        endAndNext(x);
        same("a life of 1 is left", 1, x.fighter(0, 2));
        same("it holds still", 9, x.fighter(0, 7));
    }

    @Holds(promise = 4, says = "Throws `IllegalArgumentException` if shock is out of range")
    void otherShocksAreRefused() {
        for (int shock : outside(1, 200)) {
            refuses("shock " + shock, () -> inTurn(2, 50), ARGUMENT, x -> x.setShock(shock));
        }
    }

    @Holds(promise = 4, says = "saves the state from before the call, even if the call changes nothing")
    void setShockIsUndoable() {
        undoable("another shock", SpeedTurns::new, x -> x.setShock(1));
        undoable("the same shock", SpeedTurns::new, x -> x.setShock(10));
    }

    // ---- promise 5: fighter

    @Holds(promise = 5, says = "`fighter`: number of a fighter")
    void theFirstAndTheLastFighterAnswer() {
        SpeedTurns x = new SpeedTurns();
        for (int i = 0; i < 10; i++) {
            x.add(30 - i, 200 - i);
        }
        fighterIs("the first", x, 0, 30, 200, 200, 30, 1, NONE, NONE, NONE, 0);
        fighterIs("the last", x, 9, 21, 191, 191, 21, 1, NONE, NONE, NONE, 0);
        SpeedTurns y = oneFallen(2);
        fighterIs("the fallen", y, 1, 19, 50, 0, 19, 1, 0, 1, NONE, 0);
    }

    @Holds(promise = 5, says = "`what`: 0 its speed, 1 its first life, 2 its life, 3 its present speed")
    void theFirstLifeStaysAndTheLifeGoesDownTo0() {
        SpeedTurns x = inTurn(2, 2);
        strike(x, 1, 1);
        fighterIs("the least life", x, 1, 19, 2, 1, 19);
        strike(x, 1, 1);
        fighterIs("no life", x, 1, 19, 2, 0, 19);
    }

    @Holds(promise = 5, says = "The present speed of a fighter is its speed, plus the powers of all haste, "
            + "minus those of all slow effects on it, but at least 1.")
    void thePresentSpeedIsAtLeast1() {
        same("slowed to 1", 1, presentSpeed(5, 4, 0));
        same("not slowed to 0", 1, presentSpeed(5, 5, 0));
        same("nor below", 1, presentSpeed(1, 20, 0));
        same("slowed to 2", 2, presentSpeed(5, 3, 0));
    }

    @Holds(promise = 5, says = "The present speed of a fighter is its speed, plus the powers of all haste, "
            + "minus those of all slow effects on it, but at least 1.")
    void thePresentSpeedIsLimitedOnlyAsASum() {
        same("haste makes up for slow", 1, presentSpeed(5, 20, 15));
        same("just so", 1, presentSpeed(5, 20, 16));
        same("and more", 2, presentSpeed(5, 20, 17));
        same("above the greatest speed", 50, presentSpeed(30, 0, 20));
        SpeedTurns x = inTurn(1, 50);
        x.setSpeed(0, 30);
        withThirty(x, 0, HASTE, 20, 20, BY_SOURCE);
        same("thirty of them", 630, x.fighter(0, 3));
    }

    /** Powers of 0 stand for no effect. */
    private static int presentSpeed(int speed, int slow, int haste) {
        SpeedTurns x = inTurn(2, 50);
        x.setSpeed(1, speed);
        if (slow > 0) {
            begin(x, 1, SLOW, slow, 20, BY_SOURCE);
        }
        if (haste > 0) {
            begin(x, 1, HASTE, haste, 20, BY_SOURCE);
        }
        return x.fighter(1, 3);
    }

    @Holds(promise = 5, says = "4 1 if its answer is ready, otherwise 0")
    void theAnswerIsUsedUpAndComesAgain() {
        SpeedTurns x = inTurn(2, 50);
        x.act(0, HEAL, 0, 1);
        same("who has the turn needs none to begin", 1, x.fighter(0, 4));
        same("ready", 1, x.fighter(1, 4));
        x.act(1, HEAL, 0, 1);
        same("used", 0, x.fighter(1, 4));
        x.settle();
        same("still used", 0, x.fighter(1, 4));
        endAndNext(x);
        same("ready with its turn", 1, x.fighter(1, 4));
    }

    @Holds(promise = 5, says = "5 in the list of the round: 0 waiting, 1 it has had its turn (or has it now), "
            + "2 it has delayed, NONE if it is not in the list")
    void theStateInTheList() {
        SpeedTurns x = game(2, 50);
        same("round 0", NONE, x.fighter(0, 5));
        x.next();
        same("has it now", 1, x.fighter(0, 5));
        same("waiting", 0, x.fighter(1, 5));
        x.delay();
        same("delayed", 2, x.fighter(0, 5));
        x.next();
        same("still delayed", 2, x.fighter(0, 5));
        x.end();
        same("has had it", 1, x.fighter(1, 5));
        x.comeIn(0);
        same("has come in", 1, x.fighter(0, 5));
        strike(x, 1, 50);
        endAndNext(x);
        same("the fallen is not in the new list", NONE, x.fighter(1, 5));
        same("the other one is", 1, x.fighter(0, 5));
    }

    @Holds(promise = 5, says = "6 its place in the list, from 0 (NONE if it is not in it)")
    void thePlaceInTheList() {
        SpeedTurns x = tenFighters();
        same("round 0", NONE, x.fighter(0, 6));
        x.next();
        same("the first", 0, x.fighter(0, 6));
        same("the last", 9, x.fighter(9, 6));
        strike(x, 1, 50);
        same("the fallen keeps it for the round", 1, x.fighter(1, 6));
        for (int i = 0; i < 9; i++) {
            endAndNext(x);
        }
        same("the fallen has none in the next one", NONE, x.fighter(1, 6));
        same("the last has moved up", 8, x.fighter(9, 6));
    }

    @Holds(promise = 5, says = "7 the effect that it holds (NONE if it holds none)")
    void theEffectThatItHolds() {
        SpeedTurns x = inTurn(2, 50);
        begin(x, 1, SHIELD, 1, 20, BY_SOURCE_HELD);
        same("the first number", 0, x.fighter(0, 7));
        same("the target holds none", NONE, x.fighter(1, 7));
        SpeedTurns y = inTurn(2, 50);
        begin(y, 1, SHIELD, 1, 1, BY_SOURCE);
        for (int i = 0; i < 28; i++) {
            begin(y, 1, SHIELD, 1, 20, BY_SOURCE);
        }
        same("29 effects, none held", NONE, y.fighter(0, 7));
        begin(y, 1, SHIELD, 1, 2, BY_SOURCE_HELD);
        same("the last number", 29, y.fighter(0, 7));
        y.end();
        same("the first has ended", 28, y.fighter(0, 7));
        y.next();
        y.end();
        y.next();
        y.end();
        same("it has ended", NONE, y.fighter(0, 7));
    }

    @Holds(promise = 5, says = "8 the number of effects on it")
    void theEffectsOnIt() {
        SpeedTurns x = inTurn(2, 50);
        same("none", 0, x.fighter(1, 8));
        withThirty(x, 1, SHIELD, 1, 1, BY_SOURCE);
        same("all of them", 30, x.fighter(1, 8));
        same("none of its own", 0, x.fighter(0, 8));
        x.end();
        same("none any more", 0, x.fighter(1, 8));
    }

    @Holds(promise = 5, says = "Throws `IndexOutOfBoundsException` if there is no such fighter")
    void fighterRefusesNobody() {
        for (int fighter : outside(0, 1)) {
            refuses("fighter " + fighter, () -> inTurn(2, 50), INDEX, x -> x.fighter(fighter, 0));
        }
        refuses("an eleventh", EdgesOfFightersTest::tenFighters, INDEX, x -> x.fighter(10, 0));
    }

    @Holds(promise = 5, says = "Throws `IllegalArgumentException` if what is out of range")
    void fighterRefusesOtherQuestions() {
        for (int what : outside(0, 8)) {
            refuses("what " + what, () -> inTurn(2, 50), ARGUMENT, x -> x.fighter(1, what));
        }
    }

    @Holds(promise = 5, says = "If several exceptions apply, the one that is listed first is thrown.")
    void fighterLooksAtTheFighterFirst() {
        refuses("fighter 2, what 9", () -> game(2, 50), INDEX, x -> x.fighter(2, 9));
        refuses("fighter -1, what -1", () -> game(2, 50), INDEX, x -> x.fighter(-1, -1));
    }

    // ---- promise 6: effect

    @Holds(promise = 6, says = "`effect`: number of an effect")
    void theFirstAndTheLastEffectAnswer() {
        SpeedTurns x = inTurn(1, 50);
        for (int i = 0; i < 30; i++) {
            begin(x, 0, SHIELD, 1 + i % 20, 20, BY_SOURCE);
        }
        same("the first", 1, x.effect(0, 1));
        same("the last", 10, x.effect(29, 1));
    }

    @Holds(promise = 6, says = "There are at most 30 effects, in the order in which they began, numbered from 0; "
            + "the numbers of those behind one that ends decrease by 1.")
    void theNumbersMoveUp() {
        SpeedTurns x = inTurn(1, 50);
        int[] turns = {1, 4, 2, 4, 3};
        for (int i = 0; i < turns.length; i++) {
            begin(x, 0, SHIELD, i + 1, turns[i], BY_SOURCE);
        }
        x.end();
        powersAre("the first has ended", x, 2, 3, 4, 5);
        endAndNextEnd(x);
        powersAre("one between has ended", x, 2, 4, 5);
        endAndNextEnd(x);
        powersAre("the last has ended", x, 2, 4);
        endAndNextEnd(x);
        powersAre("the others have ended at once", x);
    }

    private static void endAndNextEnd(SpeedTurns x) {
        x.next();
        x.end();
    }

    private void powersAre(String what, SpeedTurns x, int... due) {
        same(what + ", effects", due.length, x.value(2));
        for (int effect = 0; effect < due.length; effect++) {
            same(what + ", power of " + effect, due[effect], x.effect(effect, 1));
        }
    }

    @Holds(promise = 6, says = "`what`: 0 its kind, 1 its power, 2 its source, 3 its target, "
            + "4 the turns that are left, 5 its clock, 6 1 if it is held, otherwise 0")
    void theLeastAndTheGreatestOfEachAnswer() {
        SpeedTurns x = inTurn(10, 50);
        begin(x, 0, POISON, 1, 1, BY_SOURCE);
        begin(x, 9, STUN, 20, 20, BY_TARGET_HELD);
        effectIs("the least", x, 0, 0, 1, 0, 0, 1, 0, 0);
        effectIs("the greatest", x, 1, 4, 20, 0, 9, 20, 1, 1);
        x.act(0, HEAL, 0, 1);
        x.cast(9, 0, SLOW, 2, 2, BY_SOURCE_HELD);
        x.settle();
        effectIs("the greatest source", x, 2, 2, 2, 9, 0, 2, 0, 1);
    }

    @Holds(promise = 6, says = "a source and a target (fighters, perhaps the same)")
    void theSourceCanBeTheTarget() {
        SpeedTurns x = inTurn(2, 50);
        begin(x, 0, HASTE, 3, 1, BY_TARGET);
        effectIs("one's own", x, 0, 1, 3, 0, 0, 1, 1, 0);
    }

    @Holds(promise = 6, says = "Throws `IndexOutOfBoundsException` if there is no such effect")
    void effectRefusesWhatIsNotThere() {
        refuses("none at all", () -> inTurn(2, 50), INDEX, x -> x.effect(0, 0));
        for (int effect : outside(0, 1)) {
            refuses("effect " + effect, EdgesOfFightersTest::twoEffects, INDEX, x -> x.effect(effect, 0));
        }
        refuses("the 31st", () -> withThirty(inTurn(1, 50), 0, SLOW, 1, 9, BY_SOURCE), INDEX, x -> x.effect(30, 0));
    }

    private static SpeedTurns twoEffects() {
        SpeedTurns x = inTurn(2, 50);
        begin(x, 1, HASTE, 3, 5, BY_SOURCE);
        begin(x, 1, SHIELD, 4, 6, BY_TARGET_HELD);
        return x;
    }

    @Holds(promise = 6, says = "Throws `IndexOutOfBoundsException` if there is no such effect")
    void effectRefusesWhatHasEnded() {
        same("it is there", 3, hasteOfOneTurn().effect(0, 1));
        refuses("it has ended", () -> {
            SpeedTurns x = hasteOfOneTurn();
            x.end();
            return x;
        }, INDEX, x -> x.effect(0, 0));
    }

    private static SpeedTurns hasteOfOneTurn() {
        SpeedTurns x = inTurn(1, 50);
        begin(x, 0, HASTE, 3, 1, BY_SOURCE);
        return x;
    }

    @Holds(promise = 6, says = "Throws `IllegalArgumentException` if what is out of range")
    void effectRefusesOtherQuestions() {
        for (int what : outside(0, 6)) {
            refuses("what " + what, EdgesOfFightersTest::twoEffects, ARGUMENT, x -> x.effect(1, what));
        }
    }

    @Holds(promise = 6, says = "If several exceptions apply, the one that is listed first is thrown.")
    void effectLooksAtTheEffectFirst() {
        refuses("effect 2, what 7", EdgesOfFightersTest::twoEffects, INDEX, x -> x.effect(2, 7));
        refuses("effect -1, what -1", EdgesOfFightersTest::twoEffects, INDEX, x -> x.effect(-1, -1));
    }

    // ---- promise 7: value

    @Holds(promise = 7, says = "`what`: 0 the fighters, 1 those that stand, 2 the effects, 3 the round")
    void theFightersFromNoneToAll() {
        SpeedTurns x = new SpeedTurns();
        for (int i = 0; i < 10; i++) {
            values("fighters", x, i, i);
            x.add(30 - i, 60);
        }
        values("all stand", x, 10, 10);
        x.next();
        for (int i = 1; i < 10; i++) {
            strike(x, i, 60);
            values("fallen", x, 10, 10 - i);
        }
        strike(x, 0, 60);
        values("nobody stands", x, 10, 0);
    }

    @Holds(promise = 7, says = "2 the effects")
    void theEffectsFromNoneToAll() {
        SpeedTurns x = inTurn(1, 50);
        same("none", 0, x.value(2));
        withThirty(x, 0, SLOW, 1, 20, BY_SOURCE);
        same("all of them", 30, x.value(2));
        begin(x, 0, SLOW, 1, 20, BY_SOURCE);
        same("no more", 30, x.value(2));
    }

    @Holds(promise = 7, says = "4 the fighter whose turn goes on (NONE if none does)")
    void theTurnThatGoesOn() {
        SpeedTurns x = game(2, 50);
        same("round 0", NONE, x.value(4));
        x.next();
        same("the first", 0, x.value(4));
        x.end();
        same("between the turns", NONE, x.value(4));
        x.next();
        x.delay();
        same("delayed", NONE, x.value(4));
        x.comeIn(1);
        same("came in", 1, x.value(4));
        strike(x, 1, 50);
        same("has fallen", NONE, x.value(4));
    }

    @Holds(promise = 7, says = "5 the acts on the stack")
    void theActsFromNoneToAll() {
        SpeedTurns x = inTurn(10, 50);
        for (int i = 0; i < 8; i++) {
            same("acts", i, x.value(5));
            x.act(i, HEAL, 0, 1);
        }
        same("all of them", 8, x.value(5));
        x.settle();
        same("none", 0, x.value(5));
    }

    @Holds(promise = 7, says = "6 the shock")
    void theShockFromLeastToGreatest() {
        SpeedTurns x = new SpeedTurns();
        same("initially", 10, x.value(6));
        x.setShock(1);
        same("the least", 1, x.value(6));
        x.setShock(200);
        same("the greatest", 200, x.value(6));
    }

    @Holds(promise = 7, says = "7 the turns that have begun so far (also those that were over at once; "
            + "those that were delayed and went on later count once)")
    void theTurnsThatHaveBegun() {
        SpeedTurns x = game(3, 20);
        same("none", 0, x.value(7));
        x.next();
        same("the first", 1, x.value(7));
        begin(x, 1, STUN, 1, 20, BY_SOURCE);
        begin(x, 2, POISON, 20, 20, BY_SOURCE);
        endAndNext(x);
        same("a turn that a stun ends", 2, x.value(7));
        x.next();
        same("a turn in which one falls", 3, x.value(7));
        x.next();
        x.delay();
        same("delayed", 4, x.value(7));
        x.comeIn(0);
        same("went on", 4, x.value(7));
        strike(x, 1, 20);
        strike(x, 0, 20);
        same("nobody stands", NONE, x.next());
        same("no turn", 4, x.value(7));
    }

    @Holds(promise = 7, says = "8 the effects that have ended so far, for whatever reason")
    void theEffectsThatHaveEnded() {
        SpeedTurns x = inTurn(3, 50);
        begin(x, 0, HASTE, 1, 1, BY_SOURCE);
        same("none", 0, x.value(8));
        endAndNext(x);
        same("counted down", 1, x.value(8));
        begin(x, 1, HASTE, 1, 20, BY_TARGET_HELD);
        begin(x, 1, HASTE, 1, 20, BY_TARGET_HELD);
        same("given up for another", 2, x.value(8));
        strike(x, 1, 10);
        same("by a shock", 3, x.value(8));
        begin(x, 2, HASTE, 1, 20, BY_TARGET);
        strike(x, 2, 50);
        same("its target fell", 4, x.value(8));
        begin(x, 0, HASTE, 1, 20, BY_SOURCE);
        strike(x, 1, 40);
        same("its source fell", 5, x.value(8));
    }

    @Holds(promise = 7, says = "8 the effects that have ended so far, for whatever reason")
    void whatDidNotBeginHasNotEnded() {
        SpeedTurns x = withThirty(inTurn(1, 50), 0, SLOW, 1, 1, BY_SOURCE);
        begin(x, 0, SLOW, 1, 1, BY_SOURCE);
        same("the 31st did not begin", 0, x.value(8));
        x.end();
        same("thirty at once", 30, x.value(8));
    }

    @Holds(promise = 7, says = "Throws `IllegalArgumentException` if what is out of range")
    void valueRefusesOtherQuestions() {
        for (int what : outside(0, 8)) {
            refuses("what " + what, () -> inTurn(2, 50), ARGUMENT, x -> x.value(what));
        }
    }

    // ---- promise 8: inList

    @Holds(promise = 8, says = "`place`: from 0")
    void theFirstAndTheLastPlaceAnswer() {
        SpeedTurns x = tenFighters();
        x.setSpeed(3, 30);
        x.setSpeed(5, 1);
        x.next();
        same("the first", 3, x.inList(0));
        same("the last", 5, x.inList(9));
        SpeedTurns one = inTurn(1, 50);
        same("the only one", 0, one.inList(0));
    }

    @Holds(promise = 8, says = "The list of a round has the fighters that stood when it began, "
            + "by descending present speeds at that time, equal ones by their numbers.")
    void equalSpeedsGoByNumbers() {
        SpeedTurns x = new SpeedTurns();
        for (int i = 0; i < 10; i++) {
            x.add(7, 50);
        }
        x.next();
        listIs("all alike", x, 0, 1, 2, 3, 4, 5, 6, 7, 8, 9);
        SpeedTurns y = new SpeedTurns();
        int[] speeds = {5, 30, 5, 1, 30, 1};
        for (int speed : speeds) {
            y.add(speed, 50);
        }
        y.next();
        listIs("three pairs", y, 1, 4, 0, 2, 3, 5);
    }

    @Holds(promise = 8, says = "The list of a round has the fighters that stood when it began, "
            + "by descending present speeds at that time, equal ones by their numbers.")
    void presentSpeedsOf1AreEqual() {
        SpeedTurns x = new SpeedTurns();
        x.add(1, 50);
        x.add(3, 50);
        x.add(30, 50);
        x.next();
        begin(x, 1, SLOW, 20, 20, BY_SOURCE);
        begin(x, 2, HASTE, 1, 20, BY_SOURCE);
        x.end();
        x.next();
        x.end();
        x.next();
        x.end();
        x.next();
        listIs("one that is slowed far below 1 is as fast as one of 1", x, 2, 0, 1);
    }

    @Holds(promise = 8, says = "The list of a round has the fighters that stood when it began, "
            + "by descending present speeds at that time, equal ones by their numbers.")
    void laterSpeedsCountInTheNextRound() {
        SpeedTurns x = inTurn(3, 50);
        begin(x, 2, HASTE, 3, 4, BY_SOURCE);
        listIs("a haste that begins", x, 0, 1, 2);
        endAndNext(x);
        endAndNext(x);
        endAndNext(x);
        listIs("counts in the next round", x, 2, 0, 1);
        endAndNext(x);
        x.act(0, HEAL, 0, 1);
        x.cast(2, 0, SLOW, 20, 1, BY_TARGET);
        x.settle();
        listIs("a slow that begins", x, 2, 0, 1);
        endAndNext(x);
        endAndNext(x);
        listIs("and has ended counts in no list", x, 2, 0, 1);
    }

    @Holds(promise = 8, says = "The list of a round has the fighters that stood when it began, "
            + "by descending present speeds at that time, equal ones by their numbers.")
    void theFallenAreInTheListOfTheirLastRoundOnly() {
        SpeedTurns x = oneFallen(3);
        listIs("the round in which it fell", x, 0, 1, 2);
        same("it is passed over", 2, endAndNext(x));
        same("the next round", 0, endAndNext(x));
        listIs("the next list", x, 0, 2);
    }

    @Holds(promise = 8, says = "Throws `IndexOutOfBoundsException` if the list has no such place")
    void otherPlacesAreRefused() {
        refuses("round 0", () -> game(2, 50), INDEX, x -> x.inList(0));
        for (int place : outside(0, 1)) {
            refuses("place " + place, () -> inTurn(2, 50), INDEX, x -> x.inList(place));
        }
        refuses("an eleventh", () -> inTurn(10, 50), INDEX, x -> x.inList(10));
    }

    @Holds(promise = 8, says = "Throws `IndexOutOfBoundsException` if the list has no such place")
    void aListOfNobodyHasNoPlace() {
        same("the list of the round in which it fell", 0, allFallen().inList(0));
        refuses("the list of nobody", () -> {
            SpeedTurns x = allFallen();
            x.next();
            return x;
        }, INDEX, x -> x.inList(0));
    }

    private static SpeedTurns allFallen() {
        SpeedTurns x = inTurn(1, 50);
        strike(x, 0, 50);
        return x;
    }
}
