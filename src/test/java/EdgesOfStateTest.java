import java.math.BigInteger;
import java.util.ArrayList;
import java.util.List;

/** The boundaries of promises 25 and 26, sentence by sentence: undo, digest. */
public final class EdgesOfStateTest extends Edges {

    public static void main(String[] args) throws ReflectiveOperationException {
        new EdgesOfStateTest().run();
    }

    /** Calls that save a state each. */
    private static SpeedTurns withSaved(int states) {
        SpeedTurns x = new SpeedTurns();
        for (int i = 1; i <= states; i++) {
            x.setShock(i);
        }
        return x;
    }

    // ---- promise 25: undo

    @Holds(promise = 25, says = "at most 4 states are saved, and the oldest is dropped first")
    void theFourthIsKeptAndTheFifthDropsTheOldest() {
        for (int states = 0; states <= 9; states++) {
            same("saved by " + states + " calls", Math.min(states, 4), savedStates(withSaved(states)));
        }
        SpeedTurns four = withSaved(4);
        savedStates(four);
        same("four calls: back to the start", 10, four.value(6));
        SpeedTurns five = withSaved(5);
        savedStates(five);
        same("five calls: back to the first", 1, five.value(6));
        SpeedTurns nine = withSaved(9);
        savedStates(nine);
        same("nine calls: back to the fifth", 5, nine.value(6));
    }

    @Holds(promise = 25, says = "Restores the most recently saved state and removes it from the saved states.")
    void fromTheLatestToTheOldest() {
        SpeedTurns x = withSaved(6);
        for (int i = 5; i >= 2; i--) {
            x.undo();
            same("the shock", i, x.value(6));
        }
    }

    @Holds(promise = 25, says = "Restores the most recently saved state and removes it from the saved states.")
    void undoIsNotUndone() {
        SpeedTurns x = withSaved(3);
        x.undo();
        x.undo();
        same("not the one that was undone", 1, x.value(6));
        x.setShock(50);
        x.setShock(60);
        same("new ones come behind the one that remained", 2, x.undo());
        same("the shock", 50, x.value(6));
        x.undo();
        same("the shock before both", 1, x.value(6));
        same("the first", 0, x.undo());
        same("the shock of the start", 10, x.value(6));
    }

    @Holds(promise = 25, says = "Returns the number of saved states that remain.")
    void from3To0Remain() {
        SpeedTurns x = withSaved(7);
        for (int remain = 3; remain >= 0; remain--) {
            same("remain", remain, x.undo());
        }
    }

    @Holds(promise = 25, says = "at most 4 states are saved, and the oldest is dropped first")
    void theFourPlacesComeRoundAgain() {
        SpeedTurns x = new SpeedTurns();
        int shock = 10;
        for (int i = 0; i < 30; i++) {
            x.setShock(100 + i);
            x.setShock(150 + i);
            same("one of them is undone", Math.min(3, i + 1), x.undo());
            same("the shock", 100 + i, x.value(6));
            shock = 100 + i;
        }
        for (int remain = 2; remain >= 0; remain--) {
            same("remain", remain, x.undo());
            shock--;
            same("the shock", shock, x.value(6));
        }
        refuses("no more", SpeedTurns::new, STATE, y -> y.undo());
    }

    @Holds(promise = 25, says = "Each successful call of a method whose description says \"undoable\" saves the state "
            + "from before the call, even if the call changes nothing")
    void callsThatChangeNothingSaveToo() {
        undoable("the same shock", SpeedTurns::new, x -> x.setShock(10));
        undoable("the same speed", () -> game(1, 50), x -> x.setSpeed(0, 20));
        undoable("no commands", SpeedTurns::new, x -> x.carryOut());
        undoable("the end of a turn without effects", () -> inTurn(1, 50), x -> x.end());
    }

    @Holds(promise = 25, says = "A call that throws an exception changes nothing.")
    void callsThatThrowSaveNothing() {
        SpeedTurns x = withSaved(4);
        for (int i = 0; i < 3; i++) {
            throwsState(x);
        }
        same("all four are there still", 3, x.undo());
        savedStates(x);
        same("the oldest, too", 10, x.value(6));
    }

    private void throwsState(SpeedTurns x) {
        boolean thrown = false;
        try {
            x.end();
        } catch (IllegalStateException e) {
            thrown = true;
        }
        yes("end throws", thrown);
    }

    @Holds(promise = 25, says = "Each successful call of a method whose description says \"undoable\" saves the state")
    void questionsSaveNothing() {
        SpeedTurns x = inTurn(1, 50);
        begin(x, 0, SHIELD, 1, 20, BY_SOURCE);
        x.act(0, HEAL, 0, 1);
        x.value(0);
        x.fighter(0, 0);
        x.effect(0, 0);
        x.inList(0);
        x.stacked(0, 0);
        x.mayAnswer(0);
        x.upcoming(40);
        x.goneAfter(0);
        x.lifeSettled();
        x.vigor();
        x.digest();
        x.append('n');
        x.carryOut();
        x.clearText();
        x.undo();
        same("the act alone was undone", 0, x.value(5));
        same("the effect is there", 1, x.value(2));
    }

    @Holds(promise = 25, says = "The saved state contains everything except the script text.")
    void theTextIsNotRestored() {
        SpeedTurns x = new SpeedTurns();
        x.append('n');
        x.setShock(20);
        x.append(';');
        x.undo();
        same("the text is as long as it was", 2, x.clearText());
        x.setShock(30);
        write(x, "n;");
        x.undo();
        same("the text of after the call", 1, x.carryOut());
    }

    @Holds(promise = 25, says = "The saved state contains everything except the script text.")
    void whatNoQuestionTellsIsRestored() {
        SpeedTurns x = inTurn(3, 50);
        x.act(0, STRIKE, 1, 1);
        x.undo();
        same("no act was begun", 0, x.delay());
        x.next();
        x.end();
        x.undo();
        x.undo();
        same("the latest turn", 0, x.comeIn(0));
        x.undo();
        x.next();
        x.delay();
        same("it has delayed still", 1, x.comeIn(0));
        listIs("behind the latest", x, 1, 0, 2);
    }

    @Holds(promise = 25, says = "The saved state contains everything except the script text.")
    void aFullGameIsRestored() {
        undoable("thirty effects end", () -> withThirty(inTurn(2, 50), 1, SLOW, 1, 1, BY_SOURCE), x -> x.end());
        undoable("the source of thirty falls", () -> {
            SpeedTurns x = withThirty(inTurn(2, 50), 1, HASTE, 1, 20, BY_SOURCE);
            x.act(0, STRIKE, 0, 60);
            return x;
        }, x -> x.settle());
        undoable("eight acts happen", () -> {
            SpeedTurns x = inTurn(10, 50);
            for (int i = 0; i < 8; i++) {
                x.cast(i, 9, SHIELD, 20, 20, BY_TARGET_HELD);
            }
            return x;
        }, x -> x.settle());
    }

    @Holds(promise = 25, says = "Throws `IllegalStateException` if there is no saved state")
    void undoWithoutASavedStateIsRefused() {
        refuses("a new object", SpeedTurns::new, STATE, x -> x.undo());
        refuses("a text alone", () -> write(new SpeedTurns(), "n;"), STATE, x -> x.undo());
        refuses("the only one is undone", () -> {
            SpeedTurns x = withSaved(1);
            x.undo();
            return x;
        }, STATE, x -> x.undo());
        refuses("the fourth of five is undone", () -> {
            SpeedTurns x = withSaved(5);
            savedStates(x);
            return x;
        }, STATE, x -> x.undo());
    }

    // ---- promise 26: digest

    @Holds(promise = 26, says = "Start with h = 3343 and, for each of the following values v, set h = 31 * h + v")
    void aNewObjectsHash() {
        BigInteger due = BigInteger.valueOf(3343);
        int[] values = {0, 0, 0, 0, 0, -1, 0, 10, 0, 0, 0};
        for (int value : values) {
            due = due.multiply(BigInteger.valueOf(31)).add(BigInteger.valueOf(value));
        }
        same("eleven values", due.longValue(), new SpeedTurns().digest());
    }

    @Holds(promise = 26, says = "Returns the hash, with the overflow of long arithmetic ignored.")
    void manyValuesComeRoundAgain() {
        SpeedTurns x = withThirty(inTurn(10, 200), 9, SHIELD, 20, 20, BY_TARGET);
        for (int i = 0; i < 8; i++) {
            x.act(i, HEAL, 9, 60);
        }
        same("all places are full", written(x, 0, 4), x.digest());
        yes("the hash is far beyond a long", unlimited(x, 0, 4).bitLength() > 1000);
    }

    @Holds(promise = 26, says = "the length of the text")
    void theTextCountsByItsLength() {
        SpeedTurns x = new SpeedTurns();
        for (int length = 1; length <= 120; length++) {
            x.append(length % 128);
            same("length " + length, written(x, length, 0), x.digest());
        }
        x.clearText();
        same("no text", written(x, 0, 0), x.digest());
    }

    @Holds(promise = 26, says = "the number of saved states")
    void theSavedStatesCountFrom0To4() {
        for (int states = 0; states <= 6; states++) {
            SpeedTurns x = withSaved(states);
            same("saved by " + states, written(x, 0, Math.min(states, 4)), x.digest());
        }
    }

    @Holds(promise = 26, says = "for each fighter the values of fighter() for what = 0 to 8")
    void fightersCountFromNoneToTen() {
        for (int fighters = 0; fighters <= 10; fighters++) {
            SpeedTurns x = game(fighters, 50);
            same(fighters + " in round 0", written(x, 0, Math.min(fighters, 4)), x.digest());
        }
    }

    @Holds(promise = 26, says = "for each effect the values of effect() for what = 0 to 6")
    void effectsCountFromNoneToThirty() {
        SpeedTurns x = inTurn(2, 50);
        same("none", written(x, 0, 3), x.digest());
        for (int i = 0; i < 30; i++) {
            begin(x, i % 2, i % 5, 1 + i % 20, 20 - i % 20, i % 4);
        }
        same("as many as there are", written(x, 0, 4), x.digest());
        SpeedTurns full = withThirty(inTurn(2, 50), 1, HASTE, 20, 20, BY_TARGET);
        same("thirty", written(full, 0, 4), full.digest());
    }

    @Holds(promise = 26, says = "all fighters of the list, in order")
    void theListCountsInItsOrder() {
        SpeedTurns x = game(3, 50);
        x.setSpeed(2, 30);
        x.next();
        same("all three", written(x, 0, 4), x.digest());
        x.delay();
        x.next();
        x.end();
        x.comeIn(2);
        same("in another order", written(x, 0, 4), x.digest());
        SpeedTurns nobody = new SpeedTurns();
        nobody.next();
        same("none", written(nobody, 0, 1), nobody.digest());
    }

    @Holds(promise = 26, says = "for each act on the stack, from the topmost one, the values of stacked() "
            + "for what = 0 to 3")
    void actsCountFromNoneToEight() {
        SpeedTurns x = inTurn(8, 50);
        for (int i = 0; i < 8; i++) {
            x.act(i, i == 0 ? STRIKE : COUNTER, 7 - i, 60 - i);
            same("acts", written(x, 0, 4), x.digest());
        }
        x.settle();
        same("none", written(x, 0, 4), x.digest());
    }

    @Holds(promise = 26, says = "Returns a hash of the state.")
    void theHashChangesNothing() {
        leaves("a new object", SpeedTurns::new, new SpeedTurns().digest(), SpeedTurns::digest);
        leaves("within a turn", () -> inTurn(2, 50), inTurn(2, 50).digest(), SpeedTurns::digest);
    }

    private static long written(SpeedTurns x, int textLength, int savedStates) {
        return unlimited(x, textLength, savedStates).longValue();
    }

    /** The hash as the document writes it, in numbers that do not overflow. */
    private static BigInteger unlimited(SpeedTurns x, int textLength, int savedStates) {
        List<Integer> values = new ArrayList<>();
        values.add(textLength);
        for (int what = 0; what <= 8; what++) {
            values.add(x.value(what));
        }
        int listed = 0;
        for (int fighter = 0; fighter < x.value(0); fighter++) {
            for (int what = 0; what <= 8; what++) {
                values.add(x.fighter(fighter, what));
            }
            listed += x.fighter(fighter, 6) == NONE ? 0 : 1;
        }
        for (int effect = 0; effect < x.value(2); effect++) {
            for (int what = 0; what <= 6; what++) {
                values.add(x.effect(effect, what));
            }
        }
        for (int place = 0; place < listed; place++) {
            values.add(x.inList(place));
        }
        for (int index = 0; index < x.value(5); index++) {
            for (int what = 0; what <= 3; what++) {
                values.add(x.stacked(index, what));
            }
        }
        values.add(savedStates);
        BigInteger hash = BigInteger.valueOf(3343);
        for (int value : values) {
            hash = hash.multiply(BigInteger.valueOf(31)).add(BigInteger.valueOf(value));
        }
        return hash;
    }
}
