import java.util.function.Consumer;
import java.util.function.Supplier;

/** The boundaries of promises 13 to 17, sentence by sentence: act, cast, settle, stacked, mayAnswer. */
public final class EdgesOfActsTest extends Edges {

    public static void main(String[] args) throws ReflectiveOperationException {
        new EdgesOfActsTest().run();
    }

    /** The turn of fighter 0, with acts of the first fighters on the stack that heal nothing. */
    private static SpeedTurns withActs(int fighters, int acts) {
        SpeedTurns x = inTurn(fighters, 50);
        for (int i = 0; i < acts; i++) {
            x.act(i, HEAL, 0, 1);
        }
        return x;
    }

    /** The turn of fighter 0; fighter 1 has fallen. */
    private static SpeedTurns oneFallen(int fighters) {
        SpeedTurns x = inTurn(fighters, 50);
        strike(x, 1, 50);
        return x;
    }

    /** As it is, with a strike of fighter 0 on the stack. */
    private static SpeedTurns struck(SpeedTurns x) {
        x.act(0, STRIKE, 0, 1);
        return x;
    }

    private static SpeedTurns ended(SpeedTurns x) {
        x.end();
        return x;
    }

    /** Neither a strike nor a cast is possible for the fighter. */
    private void refusesActs(String what, Supplier<SpeedTurns> made, int fighter) {
        refuses(what + ", a strike", made, STATE, strikeBy(fighter));
        refuses(what + ", a cast", made, STATE, x -> x.cast(fighter, 0, HASTE, 1, 1, BY_SOURCE));
    }

    private static Consumer<SpeedTurns> strikeBy(int fighter) {
        return x -> x.act(fighter, STRIKE, 0, 1);
    }

    // ---- promise 13: act

    @Holds(promise = 13, says = "`fighter`: the actor")
    void theFirstAndTheLastFighterAct() {
        SpeedTurns x = inTurn(10, 50);
        same("the first", 1, x.act(0, STRIKE, 9, 1));
        same("the last", 2, x.act(9, STRIKE, 0, 2));
        same("two happen", 2, x.settle());
        same("the first was struck", 48, x.fighter(0, 2));
        same("the last was struck", 49, x.fighter(9, 2));
    }

    @Holds(promise = 13, says = "`kind`: 0 strike, 1 heal, 3 counter")
    void eachKindIsTaken() {
        SpeedTurns x = inTurn(3, 50);
        same("a strike", 1, x.act(0, STRIKE, 1, 20));
        same("a heal", 2, x.act(1, HEAL, 1, 20));
        same("a counter", 3, x.act(2, COUNTER, 1, 20));
        same("the counter and the strike", 2, x.settle());
        same("not the heal", 30, x.fighter(1, 2));
    }

    @Holds(promise = 13, says = "`target`: a fighter")
    void theTargetCanBeOneselfOrFallen() {
        SpeedTurns x = oneFallen(2);
        same("the fallen", 1, x.act(0, HEAL, 1, 60));
        same("nothing happens", 0, x.settle());
        same("it never comes back", 0, x.fighter(1, 2));
        same("oneself", 1, x.act(0, STRIKE, 0, 1));
        same("it happens", 1, x.settle());
        same("a life", 49, x.fighter(0, 2));
    }

    @Holds(promise = 13, says = "`power`: 1 to 60 (for a counter it does not matter, but must be in range)")
    void powersFrom1To60AreTaken() {
        SpeedTurns x = inTurn(2, 200);
        strike(x, 1, 1);
        same("the least strike", 199, x.fighter(1, 2));
        strike(x, 1, 60);
        same("the greatest strike", 139, x.fighter(1, 2));
        heal(x, 1, 1);
        same("the least heal", 140, x.fighter(1, 2));
        heal(x, 1, 60);
        same("the greatest heal", 200, x.fighter(1, 2));
    }

    @Holds(promise = 13, says = "`power`: 1 to 60 (for a counter it does not matter, but must be in range)")
    void aCountersPowerDoesNotMatter() {
        int[] powers = {1, 60};
        for (int power : powers) {
            SpeedTurns x = inTurn(2, 50);
            x.act(0, STRIKE, 1, 60);
            same("power " + power, 2, x.act(1, COUNTER, 0, power));
            same("it happens", 1, x.settle());
            same("the strike does not", 50, x.fighter(1, 2));
        }
        refuses("a counter's power 0", () -> withActs(2, 1), ARGUMENT, x -> x.act(1, COUNTER, 0, 0));
        refuses("a counter's power 61", () -> withActs(2, 1), ARGUMENT, x -> x.act(1, COUNTER, 0, 61));
    }

    @Holds(promise = 13, says = "Returns the number of acts on the stack.")
    void theStackGrowsFrom1To8() {
        SpeedTurns x = inTurn(8, 50);
        for (int i = 0; i < 8; i++) {
            same("acts", i + 1, x.act(i, i == 0 ? HEAL : COUNTER, 0, 1));
        }
        x.settle();
        same("from the start again", 1, x.act(0, HEAL, 0, 1));
    }

    @Holds(promise = 13, says = "Throws `IndexOutOfBoundsException` if there is no such fighter (actor or target)")
    void actByOrAtNobodyIsRefused() {
        for (int fighter : outside(0, 1)) {
            refuses("actor " + fighter, () -> inTurn(2, 50), INDEX, x -> x.act(fighter, STRIKE, 0, 1));
            refuses("target " + fighter, () -> inTurn(2, 50), INDEX, x -> x.act(0, STRIKE, fighter, 1));
            refuses("a counter's target " + fighter, () -> withActs(2, 1), INDEX, x -> x.act(1, COUNTER, fighter, 1));
        }
        refuses("an eleventh actor", () -> withActs(10, 1), INDEX, x -> x.act(10, STRIKE, 0, 1));
        refuses("an eleventh target", () -> withActs(10, 1), INDEX, x -> x.act(1, STRIKE, 10, 1));
    }

    @Holds(promise = 13, says = "Throws `IllegalArgumentException` if kind or power is out of range")
    void otherKindsAndPowersAreRefused() {
        for (int kind : outside(0, 3)) {
            refuses("kind " + kind, () -> inTurn(2, 50), ARGUMENT, x -> x.act(0, kind, 1, 1));
        }
        refuses("kind 2 is for cast", () -> inTurn(2, 50), ARGUMENT, x -> x.act(0, 2, 1, 1));
        refuses("kind 2 as an answer", () -> withActs(2, 1), ARGUMENT, x -> x.act(1, 2, 0, 1));
        for (int power : outside(1, 60)) {
            refuses("a strike of " + power, () -> inTurn(2, 50), ARGUMENT, x -> x.act(0, STRIKE, 1, power));
            refuses("a heal of " + power, () -> inTurn(2, 50), ARGUMENT, x -> x.act(0, HEAL, 1, power));
        }
    }

    @Holds(promise = 13, says = "Throws `IllegalStateException` if it is not possible for this fighter now")
    void noActWithoutATurn() {
        refuses("round 0", () -> game(2, 50), STATE, strikeBy(0));
        refuses("the turn has ended", () -> ended(inTurn(2, 50)), STATE, strikeBy(0));
        refuses("it was delayed", () -> {
            SpeedTurns x = inTurn(2, 50);
            x.delay();
            return x;
        }, STATE, strikeBy(0));
        refuses("it has fallen in its turn", () -> {
            SpeedTurns x = inTurn(2, 50);
            strike(x, 0, 50);
            return x;
        }, STATE, strikeBy(0));
    }

    @Holds(promise = 13, says = "While a turn goes on and the stack is empty, its fighter can begin an act "
            + "of the kinds 0 to 2; the act comes onto the stack.")
    void onlyTheTurnsFighterBeginsAndNoCounter() {
        refuses("another one", () -> inTurn(2, 50), STATE, strikeBy(1));
        refuses("a counter of nothing", () -> inTurn(2, 50), STATE, x -> x.act(0, COUNTER, 1, 1));
        refuses("another one's counter of nothing", () -> inTurn(2, 50), STATE, x -> x.act(1, COUNTER, 0, 1));
        SpeedTurns x = withActs(2, 2);
        x.act(0, HEAL, 0, 1);
        x.settle();
        same("its answer is used", 0, x.fighter(0, 4));
        same("it begins an act all the same", 1, x.act(0, STRIKE, 1, 1));
        same("the act is there", STRIKE, x.stacked(0, 0));
    }

    @Holds(promise = 13, says = "and that is not the actor of the topmost act, can answer")
    void theActorOfTheTopmostActDoesNotAnswer() {
        refuses("who began", () -> withActs(3, 1), STATE, strikeBy(0));
        refuses("who has answered", () -> withActs(3, 2), STATE, strikeBy(1));
        same("another one does", 2, withActs(3, 1).act(2, STRIKE, 0, 1));
    }

    @Holds(promise = 13, says = "its answer is not ready any more, and its act, of any kind, comes onto the stack "
            + "(at most 8 acts)")
    void oneAnswerATurnOfItsOwn() {
        SpeedTurns x = withActs(3, 3);
        same("it has answered", 0, x.fighter(2, 4));
        refuses("a second one on this stack", () -> {
            SpeedTurns y = withActs(3, 2);
            y.act(2, COUNTER, 0, 1);
            return y;
        }, STATE, strikeBy(1));
        refuses("a second one on the next stack", () -> {
            SpeedTurns y = withActs(3, 3);
            y.settle();
            return struck(y);
        }, STATE, strikeBy(2));
    }

    @Holds(promise = 13, says = "its answer is not ready any more, and its act, of any kind, comes onto the stack "
            + "(at most 8 acts)")
    void theEighthActIsTakenAndTheNinthIsNot() {
        same("the eighth", 8, withActs(10, 7).act(7, COUNTER, 0, 1));
        refusesActs("a ninth", () -> withActs(10, 8), 8);
        refuses("a ninth counter", () -> withActs(10, 8), STATE, x -> x.act(9, COUNTER, 0, 1));
    }

    @Holds(promise = 13, says = "While the stack is not empty, a fighter that stands, whose answer is ready")
    void theFallenDoNotAnswer() {
        refusesActs("the fallen", () -> struck(oneFallen(3)), 1);
        SpeedTurns x = inTurn(2, 50);
        strike(x, 1, 49);
        x.act(0, STRIKE, 1, 1);
        same("with a life of 1 it answers", 2, x.act(1, COUNTER, 0, 1));
    }

    @Holds(promise = 13, says = "(So can the fighter whose turn it is.)")
    void whoseTurnItIsAnswersOnce() {
        SpeedTurns x = withActs(3, 2);
        same("its answer", 3, x.act(0, COUNTER, 0, 1));
        same("it is used", 0, x.fighter(0, 4));
        refuses("a second one", () -> {
            SpeedTurns y = withActs(3, 2);
            y.act(0, HEAL, 0, 1);
            y.act(2, HEAL, 0, 1);
            return y;
        }, STATE, strikeBy(0));
    }

    @Holds(promise = 13, says = "If several exceptions apply, the one that is listed first is thrown.")
    void actLooksAtTheFightersThenTheNumbersThenTheState() {
        refuses("actor, kind, power, state", () -> game(2, 50), INDEX, x -> x.act(2, 4, 0, 0));
        refuses("target, kind, power, state", () -> game(2, 50), INDEX, x -> x.act(0, 2, -1, 61));
        refuses("actor, state", () -> game(2, 50), INDEX, x -> x.act(-1, STRIKE, 0, 1));
        refuses("kind, state", () -> game(2, 50), ARGUMENT, x -> x.act(0, 2, 0, 1));
        refuses("power, state", () -> game(2, 50), ARGUMENT, x -> x.act(0, HEAL, 0, 61));
        refuses("a counter's power on no stack", () -> inTurn(2, 50), ARGUMENT, x -> x.act(0, COUNTER, 0, 61));
        refuses("kind, stack is full", () -> withActs(9, 8), ARGUMENT, x -> x.act(8, 2, 0, 1));
    }

    @Holds(promise = 13, says = "by the fighter whose turn goes on, or as an answer. Undoable.")
    void actIsUndoable() {
        undoable("a strike", () -> inTurn(2, 50), x -> x.act(0, STRIKE, 1, 60));
        undoable("an answer", () -> withActs(2, 1), x -> x.act(1, COUNTER, 0, 1));
        undoable("the eighth", () -> withActs(8, 7), x -> x.act(7, HEAL, 0, 1));
    }

    // ---- promise 14: cast

    @Holds(promise = 14, says = "`fighter`: the actor, the source of the effect")
    void theFirstAndTheLastFighterCast() {
        SpeedTurns x = inTurn(10, 50);
        same("the first", 1, x.cast(0, 9, HASTE, 1, 1, BY_SOURCE));
        same("the last", 2, x.cast(9, 0, SLOW, 2, 2, BY_TARGET));
        same("both happen", 2, x.settle());
        effectIs("the last one's", x, 0, SLOW, 2, 9, 0, 2, 1, 0);
        effectIs("the first one's", x, 1, HASTE, 1, 0, 9, 1, 0, 0);
    }

    @Holds(promise = 14, says = "`target`: a fighter")
    void castAtOneselfOrTheFallen() {
        SpeedTurns x = oneFallen(2);
        same("the fallen", 1, x.cast(0, 1, HASTE, 1, 1, BY_SOURCE));
        same("nothing happens", 0, x.settle());
        same("no effect", 0, x.value(2));
        same("oneself", 1, x.cast(0, 0, HASTE, 1, 1, BY_SOURCE));
        same("it happens", 1, x.settle());
        same("an effect", 1, x.value(2));
    }

    @Holds(promise = 14, says = "`effect`: 0 to 4, the kind of the effect")
    void kindsFrom0To4AreTaken() {
        SpeedTurns x = inTurn(1, 50);
        for (int kind = POISON; kind <= STUN; kind++) {
            begin(x, 0, kind, 1, 1, BY_SOURCE);
            same("the kind", kind, x.effect(kind, 0));
        }
    }

    @Holds(promise = 14, says = "`power`: 1 to 20")
    void castTakesPowersFrom1To20() {
        SpeedTurns x = inTurn(1, 50);
        begin(x, 0, SHIELD, 1, 1, BY_SOURCE);
        begin(x, 0, SHIELD, 20, 1, BY_SOURCE);
        same("the least", 1, x.effect(0, 1));
        same("the greatest", 20, x.effect(1, 1));
    }

    @Holds(promise = 14, says = "`turns`: 1 to 20")
    void castTakesTurnsFrom1To20() {
        SpeedTurns x = inTurn(1, 50);
        begin(x, 0, SHIELD, 1, 1, BY_SOURCE);
        begin(x, 0, SHIELD, 1, 20, BY_SOURCE);
        same("the least", 1, x.effect(0, 4));
        same("the greatest", 20, x.effect(1, 4));
    }

    @Holds(promise = 14, says = "`how`: 0 to 3: clock 0 for 0 and 1, clock 1 for 2 and 3; held for 1 and 3")
    void castTakesWaysFrom0To3() {
        for (int how = 0; how <= 3; how++) {
            SpeedTurns x = inTurn(1, 50);
            begin(x, 0, SHIELD, 1, 1, how);
            same("the clock of " + how, how < 2 ? 0 : 1, x.effect(0, 5));
            same("held by " + how, how == 1 || how == 3 ? 1 : 0, x.effect(0, 6));
        }
    }

    @Holds(promise = 14, says = "Returns the number of acts on the stack.")
    void castGrowsTheStackFrom1To8() {
        SpeedTurns x = inTurn(8, 50);
        for (int i = 0; i < 8; i++) {
            same("acts", i + 1, x.cast(i, 0, SHIELD, 1, 1, BY_SOURCE));
            same("no effect yet", 0, x.value(2));
        }
    }

    @Holds(promise = 14, says = "Throws `IndexOutOfBoundsException` if there is no such fighter (actor or target)")
    void castByOrAtNobodyIsRefused() {
        for (int fighter : outside(0, 1)) {
            refuses("actor " + fighter, () -> inTurn(2, 50), INDEX, x -> x.cast(fighter, 0, HASTE, 1, 1, BY_SOURCE));
            refuses("target " + fighter, () -> inTurn(2, 50), INDEX, x -> x.cast(0, fighter, HASTE, 1, 1, BY_SOURCE));
        }
        refuses("an eleventh actor", () -> withActs(10, 1), INDEX, x -> x.cast(10, 0, HASTE, 1, 1, BY_SOURCE));
        refuses("an eleventh target", () -> withActs(10, 1), INDEX, x -> x.cast(1, 10, HASTE, 1, 1, BY_SOURCE));
    }

    @Holds(promise = 14, says = "Throws `IllegalArgumentException` if another argument is out of range")
    void castRefusesOtherNumbers() {
        for (int effect : outside(0, 4)) {
            refuses("effect " + effect, () -> inTurn(2, 50), ARGUMENT, x -> x.cast(0, 1, effect, 1, 1, BY_SOURCE));
        }
        for (int power : outside(1, 20)) {
            refuses("power " + power, () -> inTurn(2, 50), ARGUMENT, x -> x.cast(0, 1, STUN, power, 1, BY_SOURCE));
        }
        for (int turns : outside(1, 20)) {
            refuses("turns " + turns, () -> inTurn(2, 50), ARGUMENT, x -> x.cast(0, 1, STUN, 1, turns, BY_SOURCE));
        }
        for (int how : outside(0, 3)) {
            refuses("how " + how, () -> inTurn(2, 50), ARGUMENT, x -> x.cast(0, 1, STUN, 1, 1, how));
        }
    }

    @Holds(promise = 14, says = "Throws `IllegalStateException` if it is not possible for this fighter now")
    void castIsRefusedWhereActIs() {
        refusesActs("round 0", () -> game(2, 50), 0);
        refusesActs("the turn has ended", () -> ended(inTurn(2, 50)), 0);
        refusesActs("another's turn", () -> inTurn(2, 50), 1);
        refusesActs("the actor of the topmost act", () -> withActs(2, 1), 0);
        refusesActs("not ready", () -> {
            SpeedTurns x = withActs(3, 3);
            x.settle();
            return struck(x);
        }, 2);
    }

    @Holds(promise = 14, says = "If several exceptions apply, the one that is listed first is thrown.")
    void castLooksAtTheFightersThenTheNumbersThenTheState() {
        refuses("actor, numbers, state", () -> game(2, 50), INDEX, x -> x.cast(2, 0, 5, 0, 0, 4));
        refuses("target, numbers, state", () -> game(2, 50), INDEX, x -> x.cast(0, -1, -1, 21, 21, -1));
        refuses("actor, state", () -> game(2, 50), INDEX, x -> x.cast(-1, 0, STUN, 1, 1, BY_SOURCE));
        refuses("effect, state", () -> game(2, 50), ARGUMENT, x -> x.cast(0, 0, 5, 1, 1, BY_SOURCE));
        refuses("power, state", () -> game(2, 50), ARGUMENT, x -> x.cast(0, 0, STUN, 0, 1, BY_SOURCE));
        refuses("turns, state", () -> game(2, 50), ARGUMENT, x -> x.cast(0, 0, STUN, 1, 21, BY_SOURCE));
        refuses("how, state", () -> game(2, 50), ARGUMENT, x -> x.cast(0, 0, STUN, 1, 1, 4));
    }

    @Holds(promise = 14, says = "by the fighter whose turn goes on, or as an answer. Undoable.")
    void castIsUndoable() {
        undoable("the first", () -> inTurn(2, 50), x -> x.cast(0, 1, STUN, 20, 20, BY_TARGET_HELD));
        undoable("an answer", () -> withActs(2, 1), x -> x.cast(1, 0, POISON, 1, 1, BY_SOURCE));
    }

    // ---- promise 15: settle

    @Holds(promise = 15, says = "A harm of n for a fighter that stands: n is reduced by the powers of all shields "
            + "on it, but not below 0")
    void shieldsReduceAStrikeDownTo0() {
        same("one less than the shields", 50, lifeBehindShields(5, 6, 10));
        same("as much as the shields", 50, lifeBehindShields(5, 6, 11));
        same("one more", 49, lifeBehindShields(5, 6, 12));
        same("the least strike", 50, lifeBehindShields(20, 20, 1));
        same("the greatest strike", 30, lifeBehindShields(20, 20, 60));
    }

    private static int lifeBehindShields(int first, int second, int strike) {
        SpeedTurns x = inTurn(2, 50);
        begin(x, 1, SHIELD, first, 20, BY_SOURCE);
        begin(x, 1, SHIELD, second, 20, BY_TARGET);
        begin(x, 0, SHIELD, 20, 20, BY_SOURCE);
        strike(x, 1, strike);
        return x.fighter(1, 2);
    }

    @Holds(promise = 15, says = "the life decreases by the smaller one of n and the life; at 0 it falls")
    void aStrikeTakesNoMoreThanTheLife() {
        int[] powers = {49, 50, 51};
        int[] lives = {1, 0, 0};
        for (int i = 0; i < powers.length; i++) {
            SpeedTurns x = inTurn(2, 50);
            strike(x, 1, powers[i]);
            same("struck by " + powers[i], lives[i], x.fighter(1, 2));
            same("those that stand", lives[i] + 1, x.value(1));
        }
    }

    @Holds(promise = 15, says = "1 heal, the life of the target increases by its power, but not above its first life")
    void aHealGoesUpToTheFirstLife() {
        int[] powers = {9, 10, 11, 60};
        int[] lives = {199, 200, 200, 200};
        for (int i = 0; i < powers.length; i++) {
            SpeedTurns x = inTurn(2, 200);
            strike(x, 1, 10);
            x.act(0, HEAL, 1, powers[i]);
            same("it happens", 1, x.settle());
            same("healed by " + powers[i], lives[i], x.fighter(1, 2));
        }
        SpeedTurns whole = inTurn(1, 1);
        whole.act(0, HEAL, 0, 60);
        same("a heal of the whole happens", 1, whole.settle());
        same("its life stays", 1, whole.fighter(0, 2));
    }

    @Holds(promise = 15, says = "A fighter whose life is 0 has fallen; it never comes back.")
    void noHealBringsTheFallenBack() {
        SpeedTurns x = inTurn(3, 50);
        x.act(0, HEAL, 1, 60);
        x.act(2, STRIKE, 1, 50);
        same("only the strike happens", 1, x.settle());
        same("it has fallen", 0, x.fighter(1, 2));
        heal(x, 1, 60);
        same("nor later", 0, x.fighter(1, 2));
        same("the next turn", 2, endAndNext(x));
        same("the next round", 0, endAndNext(x));
        same("it is not in the list", NONE, x.fighter(1, 6));
    }

    @Holds(promise = 15, says = "There are at most 30 effects")
    void theThirtiethBegins() {
        SpeedTurns x = inTurn(2, 50);
        for (int i = 1; i <= 30; i++) {
            begin(x, 1, SHIELD, 1, 20, i == 30 ? BY_SOURCE_HELD : BY_SOURCE);
            same("effects", i, x.value(2));
        }
        same("the thirtieth", 29, x.fighter(0, 7));
    }

    @Holds(promise = 15, says = "An effect that would be the 31st (when the one that its source held has ended) "
            + "does not begin; its act has happened all the same.")
    void theThirtyFirstDoesNotBegin() {
        for (int how = BY_SOURCE; how <= BY_TARGET_HELD; how++) {
            SpeedTurns x = withThirty(inTurn(2, 50), 1, SHIELD, 1, 20, BY_SOURCE);
            x.cast(0, 0, HASTE, 5, 5, how);
            same("its act happens", 1, x.settle());
            same("thirty", 30, x.value(2));
            same("none on it", 0, x.fighter(0, 8));
            same("nothing is held", NONE, x.fighter(0, 7));
            same("nothing has ended", 0, x.value(8));
        }
    }

    @Holds(promise = 15, says = "An effect that would be the 31st (when the one that its source held has ended) "
            + "does not begin; its act has happened all the same.")
    void theOneThatItsSourceHeldMakesRoom() {
        SpeedTurns x = inTurn(2, 50);
        begin(x, 1, HASTE, 1, 20, BY_SOURCE_HELD);
        for (int i = 0; i < 29; i++) {
            begin(x, 1, SHIELD, 1, 20, BY_SOURCE);
        }
        begin(x, 0, STUN, 2, 20, BY_SOURCE);
        same("one that is not held does not begin", 0, x.fighter(0, 8));
        same("and ends nothing", 0, x.fighter(0, 7));
        x.act(0, HEAL, 0, 1);
        x.cast(1, 0, STUN, 2, 20, BY_SOURCE_HELD);
        x.settle();
        same("nor does another's that is held", 0, x.fighter(0, 8));
        begin(x, 0, SLOW, 3, 20, BY_TARGET_HELD);
        same("thirty again", 30, x.value(2));
        effectIs("the new one is the last", x, 29, SLOW, 3, 0, 0, 20, 1, 1);
        same("it is held", 29, x.fighter(0, 7));
        same("the old one has ended", 1, x.value(8));
    }

    @Holds(promise = 15, says = "A fighter holds at most one effect by concentration: when one that is held begins, "
            + "the one that its source holds already ends first.")
    void theOldOneEndsFirst() {
        SpeedTurns x = inTurn(2, 50);
        begin(x, 1, HASTE, 1, 20, BY_SOURCE_HELD);
        begin(x, 1, HASTE, 2, 20, BY_TARGET);
        begin(x, 1, HASTE, 3, 20, BY_TARGET_HELD);
        same("two are left", 2, x.value(2));
        same("what is not held stays", 2, x.effect(0, 1));
        same("the new one is behind it", 3, x.effect(1, 1));
        same("it is held", 1, x.fighter(0, 7));
        x.act(0, HEAL, 0, 1);
        x.cast(1, 1, SLOW, 4, 20, BY_SOURCE_HELD);
        x.settle();
        same("another one holds its own", 2, x.fighter(1, 7));
        same("beside it", 1, x.fighter(0, 7));
    }

    @Holds(promise = 15, says = "A fighter that loses life (and does not fall) by a loss of at least the shock "
            + "(what its life decreases by)")
    void theLossCountsAndNotThePower() {
        SpeedTurns x = inTurn(2, 50);
        begin(x, 0, SHIELD, 20, 20, BY_SOURCE_HELD);
        strike(x, 0, 29);
        same("a strike of 29, a loss of 9", 0, x.fighter(0, 7));
        strike(x, 0, 30);
        same("a strike of 30, a loss of 10", NONE, x.fighter(0, 7));
        same("its life", 31, x.fighter(0, 2));
    }

    @Holds(promise = 15, says = "A fighter that loses life (and does not fall) by a loss of at least the shock "
            + "(what its life decreases by)")
    void onlyTheOneThatLosesStopsHolding() {
        SpeedTurns x = inTurn(2, 50);
        begin(x, 1, HASTE, 1, 20, BY_SOURCE_HELD);
        begin(x, 1, HASTE, 1, 20, BY_SOURCE);
        strike(x, 1, 10);
        same("the target's loss does not matter", 0, x.fighter(0, 7));
        strike(x, 0, 10);
        same("the source's does", NONE, x.fighter(0, 7));
        same("what is not held stays", 1, x.value(2));
    }

    @Holds(promise = 15, says = "When a fighter falls, all effects on it end, and all effects of which it is the "
            + "source and that are held or have the clock 0 end.")
    void whatEndsWithTheFallen() {
        for (int how = BY_SOURCE; how <= BY_TARGET_HELD; how++) {
            same("on the fallen, " + how, 0, leftBehindAFall(0, 1, how));
            same("by the fallen, " + how, how == BY_TARGET ? 1 : 0, leftBehindAFall(1, 0, how));
            same("on and by the fallen, " + how, 0, leftBehindAFall(1, 1, how));
            same("neither, " + how, 1, leftBehindAFall(0, 2, how));
        }
    }

    /** The number of effects that are left of one when fighter 1 has fallen. */
    private static int leftBehindAFall(int source, int target, int how) {
        SpeedTurns x = inTurn(3, 50);
        x.act(0, HEAL, 0, 1);
        if (source == 1) {
            x.cast(1, target, HASTE, 1, 20, how);
        }
        x.settle();
        if (source == 0) {
            begin(x, target, HASTE, 1, 20, how);
        }
        strike(x, 1, 50);
        return x.value(2);
    }

    @Holds(promise = 15, says = "Settling: the topmost act leaves the stack and happens, if its actor and "
            + "(but for a counter) its target stand; then the next one, and so on, until the stack is empty.")
    void fromTheTopmostToTheLast() {
        SpeedTurns x = inTurn(2, 10);
        strike(x, 1, 5);
        x.act(0, STRIKE, 1, 9);
        x.act(1, HEAL, 1, 60);
        same("both happen", 2, x.settle());
        same("the heal came first", 1, x.fighter(1, 2));
        same("nothing is left", 0, x.value(5));
    }

    @Holds(promise = 15, says = "Settling: the topmost act leaves the stack and happens, if its actor and "
            + "(but for a counter) its target stand; then the next one, and so on, until the stack is empty.")
    void noActOfOrAtTheFallenHappens() {
        SpeedTurns x = inTurn(4, 50);
        x.act(0, STRIKE, 1, 1);
        x.act(1, STRIKE, 3, 1);
        x.cast(2, 1, HASTE, 1, 1, BY_SOURCE);
        x.act(3, STRIKE, 1, 50);
        same("only the topmost", 1, x.settle());
        same("no strike by the fallen", 50, x.fighter(3, 2));
        same("no effect on the fallen", 0, x.value(2));
        same("none on the stack", 0, x.value(5));
    }

    @Holds(promise = 15, says = "A counter takes the act that is topmost then, if there is one, off the stack "
            + "(it does not happen); its target does not matter, but must be a fighter.")
    void aCountersTargetDoesNotMatter() {
        SpeedTurns x = oneFallen(4);
        x.act(0, STRIKE, 2, 20);
        x.act(2, STRIKE, 2, 5);
        x.act(3, COUNTER, 1, 1);
        same("the counter at the fallen, and the first strike", 2, x.settle());
        same("the topmost was taken off, and no other", 30, x.fighter(2, 2));
        SpeedTurns y = inTurn(2, 50);
        y.act(0, STRIKE, 1, 20);
        y.act(1, COUNTER, 1, 1);
        same("a counter at itself", 1, y.settle());
        same("the strike was taken off", 50, y.fighter(1, 2));
    }

    @Holds(promise = 15, says = "A counter takes the act that is topmost then, if there is one, off the stack "
            + "(it does not happen); its target does not matter, but must be a fighter.")
    void countersTakeCountersOff() {
        SpeedTurns x = inTurn(8, 50);
        x.act(0, STRIKE, 0, 20);
        for (int i = 1; i < 8; i++) {
            x.act(i, COUNTER, 0, 1);
        }
        same("every other one of seven", 4, x.settle());
        same("the strike was taken off", 50, x.fighter(0, 2));
        SpeedTurns y = inTurn(7, 50);
        y.act(0, STRIKE, 0, 20);
        for (int i = 1; i < 7; i++) {
            y.act(i, COUNTER, 0, 1);
        }
        same("every other one of six, and the strike", 4, y.settle());
        same("the strike happened", 30, y.fighter(0, 2));
    }

    @Holds(promise = 15, says = "A counter takes the act that is topmost then, if there is one, off the stack")
    void theFallenCounterNothing() {
        SpeedTurns x = inTurn(3, 50);
        x.act(0, STRIKE, 0, 20);
        x.act(1, COUNTER, 0, 1);
        x.act(2, STRIKE, 1, 50);
        same("both strikes", 2, x.settle());
        same("the first was not taken off", 30, x.fighter(0, 2));
    }

    @Holds(promise = 15, says = "If the fighter whose turn it is falls meanwhile, its turn is over "
            + "when the stack is empty (nothing counts down).")
    void theTurnIsOverWhenItsFighterFalls() {
        SpeedTurns x = inTurn(3, 50);
        begin(x, 1, SHIELD, 1, 1, BY_TARGET);
        x.act(0, HEAL, 0, 60);
        x.act(1, STRIKE, 1, 6);
        x.act(2, STRIKE, 0, 50);
        same("the others' acts happen", 2, x.settle());
        same("the one below, too", 45, x.fighter(1, 2));
        same("the turn is over", NONE, x.value(4));
        same("it has had it", 1, x.fighter(0, 5));
        same("nothing counts down", 1, x.effect(0, 4));
        same("the next turn", 1, x.next());
    }

    @Holds(promise = 15, says = "If the fighter whose turn it is falls meanwhile, its turn is over "
            + "when the stack is empty (nothing counts down).")
    void theTurnGoesOnWhenAnotherFalls() {
        SpeedTurns x = inTurn(2, 50);
        strike(x, 0, 49);
        same("with a life of 1", 0, x.value(4));
        strike(x, 1, 50);
        same("another has fallen", 0, x.value(4));
        same("it can act still", 1, x.act(0, HEAL, 0, 1));
    }

    @Holds(promise = 15, says = "Returns the number of acts that happened (counters count; acts that were taken off, "
            + "or whose actor or target had fallen, do not).")
    void fromNoneToEightHappen() {
        SpeedTurns x = oneFallen(2);
        x.act(0, STRIKE, 1, 1);
        same("none", 0, x.settle());
        same("all eight", 8, withActs(8, 8).settle());
        SpeedTurns y = withActs(2, 1);
        y.act(1, COUNTER, 0, 1);
        same("the counter only", 1, y.settle());
        SpeedTurns z = inTurn(8, 50);
        for (int i = 0; i < 7; i++) {
            z.act(i, STRIKE, 7, 1);
        }
        z.act(7, STRIKE, 7, 50);
        same("one of eight", 1, z.settle());
    }

    @Holds(promise = 15, says = "Throws `IllegalStateException` if the stack is empty")
    void settleIsRefusedWithoutActs() {
        refuses("round 0", () -> game(2, 50), STATE, x -> x.settle());
        refuses("no act yet", () -> inTurn(2, 50), STATE, x -> x.settle());
        refuses("settled already", () -> {
            SpeedTurns x = withActs(2, 2);
            x.settle();
            return x;
        }, STATE, x -> x.settle());
    }

    @Holds(promise = 15, says = "Settles the stack. Undoable.")
    void settleIsUndoable() {
        undoable("one act", () -> withActs(2, 1), x -> x.settle());
        undoable("eight acts", () -> withActs(8, 8), x -> x.settle());
        undoable("one falls", () -> {
            SpeedTurns x = inTurn(2, 50);
            begin(x, 1, HASTE, 1, 20, BY_SOURCE_HELD);
            x.act(0, STRIKE, 0, 50);
            return x;
        }, x -> x.settle());
        SpeedTurns back = inTurn(2, 50);
        strike(back, 1, 50);
        back.undo();
        same("the one that had fallen stands", 50, back.fighter(1, 2));
    }

    // ---- promise 16: stacked

    @Holds(promise = 16, says = "`index`: 0 for the topmost one, and so on downward")
    void fromTheTopmostDownToTheFirst() {
        SpeedTurns x = withActs(8, 8);
        for (int index = 0; index < 8; index++) {
            same("the actor of " + index, 7 - index, x.stacked(index, 1));
        }
        SpeedTurns y = withActs(2, 1);
        same("the only one", 0, y.stacked(0, 1));
        y.act(1, HEAL, 0, 1);
        same("has one above it", 0, y.stacked(1, 1));
    }

    @Holds(promise = 16, says = "`what`: 0 its kind, 1 its actor, 2 its target, 3 its power")
    void theLeastAndTheGreatestOfEachAct() {
        SpeedTurns x = inTurn(10, 50);
        x.act(0, STRIKE, 0, 1);
        x.act(9, COUNTER, 9, 60);
        x.cast(1, 2, STUN, 20, 19, BY_TARGET_HELD);
        x.act(2, HEAL, 1, 59);
        int[][] due = {{1, 2, 1, 59}, {2, 1, 2, 20}, {3, 9, 9, 60}, {0, 0, 0, 1}};
        for (int index = 0; index < due.length; index++) {
            for (int what = 0; what <= 3; what++) {
                same("act " + index + ", what " + what, due[index][what], x.stacked(index, what));
            }
        }
    }

    @Holds(promise = 16, says = "Throws `IndexOutOfBoundsException` if there is no such act")
    void otherActsAreRefused() {
        refuses("round 0", () -> game(2, 50), INDEX, x -> x.stacked(0, 0));
        refuses("an empty stack", () -> inTurn(2, 50), INDEX, x -> x.stacked(0, 0));
        for (int index : outside(0, 1)) {
            refuses("act " + index, () -> withActs(2, 2), INDEX, x -> x.stacked(index, 0));
        }
        refuses("a ninth", () -> withActs(8, 8), INDEX, x -> x.stacked(8, 0));
    }

    @Holds(promise = 16, says = "Throws `IllegalArgumentException` if what is out of range")
    void stackedRefusesOtherQuestions() {
        for (int what : outside(0, 3)) {
            refuses("what " + what, () -> withActs(2, 2), ARGUMENT, x -> x.stacked(1, what));
        }
    }

    @Holds(promise = 16, says = "If several exceptions apply, the one that is listed first is thrown.")
    void stackedLooksAtTheActFirst() {
        refuses("act 2, what 4", () -> withActs(2, 2), INDEX, x -> x.stacked(2, 4));
        refuses("act -1, what -1", () -> withActs(2, 2), INDEX, x -> x.stacked(-1, -1));
        refuses("an empty stack, what 4", () -> inTurn(2, 50), INDEX, x -> x.stacked(0, 4));
    }

    // ---- promise 17: mayAnswer

    @Holds(promise = 17, says = "Returns whether act() by it would be possible as an answer.")
    void withoutAStackNobodyAnswers() {
        no("round 0", game(2, 50).mayAnswer(0));
        no("who has the turn begins, and does not answer", inTurn(2, 50).mayAnswer(0));
        no("another one", inTurn(2, 50).mayAnswer(1));
        SpeedTurns x = withActs(2, 2);
        x.settle();
        no("the stack has been settled", x.mayAnswer(1));
    }

    @Holds(promise = 17, says = "`fighter`: number of a fighter")
    void theFirstAndTheLastMayAnswer() {
        SpeedTurns x = inTurn(10, 50);
        x.act(0, HEAL, 0, 1);
        yes("the last", x.mayAnswer(9));
        x.act(9, HEAL, 0, 1);
        yes("the first", x.mayAnswer(0));
    }

    @Holds(promise = 17, says = "a fighter that stands, whose answer is ready, "
            + "and that is not the actor of the topmost act, can answer")
    void whoMayAnswerDoesAndWhoMayNotDoesNot() {
        SpeedTurns x = struck(oneFallen(4));
        boolean[] first = {false, false, true, true};
        mayAnswerIs("who began and the fallen do not", x, first);
        x.act(2, HEAL, 0, 1);
        boolean[] second = {true, false, false, true};
        mayAnswerIs("who began, does now", x, second);
        x.act(3, HEAL, 0, 1);
        boolean[] third = {true, false, false, false};
        mayAnswerIs("who has answered, does not any more", x, third);
        x.act(0, HEAL, 0, 1);
        boolean[] none = {false, false, false, false};
        mayAnswerIs("nobody is left", x, none);
    }

    private void mayAnswerIs(String what, SpeedTurns x, boolean[] due) {
        for (int i = 0; i < due.length; i++) {
            same(what + ", fighter " + i, due[i] ? 1 : 0, x.mayAnswer(i) ? 1 : 0);
        }
    }

    @Holds(promise = 17, says = "(at most 8 acts)")
    void nobodyMayAnswerTheEighthAct() {
        SpeedTurns x = withActs(10, 7);
        yes("the eighth", x.mayAnswer(7));
        yes("or another's eighth", x.mayAnswer(9));
        x.act(7, HEAL, 0, 1);
        for (int i = 0; i < 10; i++) {
            no("a ninth by " + i, x.mayAnswer(i));
        }
    }

    @Holds(promise = 17, says = "Throws `IndexOutOfBoundsException` if there is no such fighter")
    void mayAnswerRefusesNobody() {
        for (int fighter : outside(0, 1)) {
            refuses("fighter " + fighter, () -> withActs(2, 1), INDEX, x -> x.mayAnswer(fighter));
        }
        refuses("an eleventh", () -> withActs(10, 1), INDEX, x -> x.mayAnswer(10));
    }
}
