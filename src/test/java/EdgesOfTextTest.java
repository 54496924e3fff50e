import java.util.function.Supplier;

/** The boundaries of promises 22 to 24, sentence by sentence: append, clearText, carryOut. */
public final class EdgesOfTextTest extends Edges {

    private static final String LETTERS = "nedcshr";
    private static final String DIGITS = "0123456789";

    public static void main(String[] args) throws ReflectiveOperationException {
        new EdgesOfTextTest().run();
    }

    private static SpeedTurns fullText() {
        return write(game(2, 50), "n;".repeat(60));
    }

    /** What carryOut answers to a text in a game of two in round 0. */
    private static int answer(String text) {
        return write(game(2, 50), text).carryOut();
    }

    private void syntaxError(String text, int position) {
        leaves("\"" + text + "\"", () -> write(inTurn(2, 50), text), -10 - position, SpeedTurns::carryOut);
    }

    private void commandError(String what, Supplier<SpeedTurns> made, String text, int command) {
        leaves(what + ", \"" + text + "\"", () -> write(made.get(), text), -1000 - command, SpeedTurns::carryOut);
    }

    // ---- promise 22: append

    @Holds(promise = 22, says = "`value`: the byte, 0 to 127")
    void bytesFrom0To127AreTaken() {
        SpeedTurns x = new SpeedTurns();
        for (int value = 0; value < 120; value++) {
            same("byte " + value, value + 1, x.append(value));
        }
        x.clearText();
        for (int value = 120; value <= 127; value++) {
            same("byte " + value, value - 119, x.append(value));
        }
    }

    @Holds(promise = 22, says = "Returns the new length of the text.")
    void theLengthGoesFrom1To120() {
        SpeedTurns x = new SpeedTurns();
        for (int length = 1; length <= 120; length++) {
            same("the length", length, x.append('n'));
        }
        x.clearText();
        same("from the start again", 1, x.append('n'));
    }

    @Holds(promise = 22, says = "The text has at most 120 bytes.")
    void the120thByteIsTakenAndRead() {
        SpeedTurns x = write(new SpeedTurns(), "n;".repeat(59) + "n");
        same("the last byte", 120, x.append(';'));
        same("sixty commands", 60, x.carryOut());
        same("sixty rounds of nobody", 60, x.value(3));
    }

    @Holds(promise = 22, says = "Throws `IllegalArgumentException` if value is out of range")
    void otherBytesAreRefused() {
        for (int value : outside(0, 127)) {
            refuses("byte " + value, () -> write(game(2, 50), "n;"), ARGUMENT, x -> x.append(value));
        }
        refuses("255", () -> write(game(2, 50), "n;"), ARGUMENT, x -> x.append(255));
    }

    @Holds(promise = 22, says = "Throws `IllegalStateException` if the text has 120 bytes")
    void the121stByteIsRefused() {
        refuses("a semicolon", EdgesOfTextTest::fullText, STATE, x -> x.append(';'));
        refuses("the least byte", EdgesOfTextTest::fullText, STATE, x -> x.append(0));
        refuses("the greatest byte", EdgesOfTextTest::fullText, STATE, x -> x.append(127));
    }

    @Holds(promise = 22, says = "If several exceptions apply, the one that is listed first is thrown.")
    void appendLooksAtTheByteFirst() {
        refuses("byte 128 behind 120", EdgesOfTextTest::fullText, ARGUMENT, x -> x.append(128));
        refuses("byte -1 behind 120", EdgesOfTextTest::fullText, ARGUMENT, x -> x.append(-1));
    }

    @Holds(promise = 22, says = "Each successful call of a method whose description says \"undoable\" saves the state")
    void appendSavesNoState() {
        SpeedTurns x = new SpeedTurns();
        x.append('n');
        same("no saved state", 0, savedStates(x));
    }

    @Holds(promise = 22, says = "The saved state contains everything except the script text.")
    void undoTakesNoByteAway() {
        SpeedTurns x = game(1, 50);
        x.append('n');
        x.undo();
        same("the length goes on", 2, x.append(';'));
    }

    // ---- promise 23: clearText

    @Holds(promise = 23, says = "Returns the length that it had.")
    void itHadFrom0To120Bytes() {
        SpeedTurns x = new SpeedTurns();
        same("none", 0, x.clearText());
        x.append(0);
        same("one", 1, x.clearText());
        same("none again", 0, x.clearText());
        same("the most", 120, fullText().clearText());
    }

    @Holds(promise = 23, says = "Empties the script text.")
    void nothingOfTheOldTextIsLeft() {
        SpeedTurns x = fullText();
        x.clearText();
        same("no commands", 0, x.carryOut());
        write(x, "e");
        same("an early end", -11, x.carryOut());
        write(x, ";");
        same("a command of its own", -1000, x.carryOut());
        same("two bytes", 2, x.clearText());
    }

    @Holds(promise = 23, says = "The saved state contains everything except the script text.")
    void clearTextSavesNoState() {
        SpeedTurns x = fullText();
        x.clearText();
        same("two fighters were added", 1, x.undo());
        same("undo brings no text back", 0, x.clearText());
    }

    // ---- promise 24: carryOut

    @Holds(promise = 24, says = "There are no spaces; there may be no commands.")
    void thereMayBeNoCommands() {
        same("no text", 0, new SpeedTurns().carryOut());
        same("no text in a turn", 0, inTurn(2, 50).carryOut());
        syntaxError(" ", 0);
        syntaxError(" n;", 0);
        syntaxError("n ;", 1);
        syntaxError("n; e;", 2);
        syntaxError("s1, 5;", 3);
        syntaxError("e; ", 2);
        syntaxError("\n", 0);
    }

    @Holds(promise = 24, says = "It is a sequence of commands, each terminated by a semicolon: \"n\" next(); "
            + "\"e\" end(); \"d\" delay(); \"c\" and a fighter digit: comeIn();")
    void whichBytesCanStandAfterEachStart() {
        canStand("", LETTERS);
        canStand("n", ";");
        canStand("e", ";");
        canStand("d", ";");
        canStand("r", ";");
        canStand("c", DIGITS);
        canStand("c0", ";");
        canStand("c9", ";");
        canStand("n;", LETTERS);
        canStand("c1;", LETTERS);
    }

    @Holds(promise = 24, says = "\"s\", a fighter digit, a comma and a power of one or two digits: "
            + "act() of the kind 0; \"h\" likewise: of the kind 1; \"r\": settle().")
    void whichBytesCanStandInAnAct() {
        String[] acts = {"s", "h"};
        for (String act : acts) {
            canStand(act, DIGITS);
            canStand(act + "0", ",");
            canStand(act + "9", ",");
            canStand(act + "1,", DIGITS);
            canStand(act + "1,0", DIGITS + ";");
            canStand(act + "1,9", DIGITS + ";");
            canStand(act + "1,00", ";");
            canStand(act + "1,99", ";");
            canStand(act + "1,99;", LETTERS);
        }
    }

    /** All bytes behind a start that is right so far. */
    private void canStand(String start, String fine) {
        for (char b = 0; b <= 127; b++) {
            int got = answer(start + b);
            String what = "\"" + start + "\" and byte " + (int) b;
            if (fine.indexOf(b) < 0) {
                same(what, -10 - start.length(), got);
            } else if (b == ';') {
                yes(what + " has no syntax error", got >= 0 || got <= -1000);
            } else {
                same(what + " ends too early", -10 - start.length() - 1, got);
            }
        }
    }

    @Holds(promise = 24, says = "The syntax error position is the index of the first byte that cannot stand "
            + "where it stands (a third digit of a power, too), or the length of the text if the text ends too early.")
    void theFirstWrongByteOfSeveral() {
        syntaxError("xx", 0);
        syntaxError(";;", 0);
        syntaxError("e;;x", 2);
        syntaxError("s1,555;", 5);
        syntaxError("s1,555", 5);
        syntaxError("h1,5555;", 5);
        syntaxError("c11;", 2);
        syntaxError("s11,5;", 2);
        syntaxError("e;x;y;", 2);
    }

    @Holds(promise = 24, says = "The syntax error position is the index of the first byte that cannot stand "
            + "where it stands (a third digit of a power, too), or the length of the text if the text ends too early.")
    void textsThatEndTooEarly() {
        String[] early = {"n", "e", "d", "r", "c", "c1", "s", "s1", "s1,", "s1,5", "s1,55", "h", "h1", "h1,", "h1,5",
            "h1,55", "e;n", "e;e;h1,5"};
        for (String text : early) {
            syntaxError(text, text.length());
        }
    }

    @Holds(promise = 24, says = "-10 minus the syntax error position if there is a syntax error")
    void syntaxErrorsFromTheFirstByteToTheEnd() {
        String most = "n;".repeat(60);
        same("the first byte", -10, answer("!" + most.substring(1)));
        same("the second byte", -11, answer("n!" + most.substring(2)));
        same("the last byte of 120", -129, answer(most.substring(0, 119) + "!"));
        same("120 bytes that end too early", -130, answer(most.substring(0, 118) + "c1"));
        same("119 bytes that end too early", -129, answer(most.substring(0, 119)));
    }

    @Holds(promise = 24, says = "Carries out the commands of the text one after the other, as by the methods")
    void nothingIsCarriedOutOfATextWithASyntaxError() {
        syntaxError("e;n;x", 4);
        syntaxError("n;n;x", 4);
        syntaxError("r;x", 2);
    }

    @Holds(promise = 24, says = "Returns the number of commands; -10 minus the syntax error position if there is a "
            + "syntax error; -1000 minus the index of the first command (from 0) that would throw an exception.")
    void fromNoCommandsTo60() {
        same("none", 0, answer(""));
        same("one", 1, answer("n;"));
        same("the most", 60, answer("n;e;".repeat(30)));
        same("the longest acts", 30, write(inTurn(2, 50), "h0,60;r;".repeat(15)).carryOut());
        SpeedTurns x = write(game(2, 50), "n;e;".repeat(30));
        x.carryOut();
        same("thirty turns", 30, x.value(7));
    }

    @Holds(promise = 24, says = "-1000 minus the index of the first command (from 0) that would throw an exception")
    void commandErrorsFromTheFirstToTheLast() {
        same("the first of 60", -1000, answer("e;n;".repeat(30)));
        same("the second of 60", -1001, answer("n;n;".repeat(30)));
        same("the last of 60", -1059, answer("n;e;".repeat(29) + "n;n;"));
        same("the first of two", -1001, answer("n;n;n;"));
        commandError("only one", () -> game(2, 50), "e;", 0);
    }

    @Holds(promise = 24, says = "If one of them would throw an exception (an act also if no turn goes on), "
            + "nothing is changed.")
    void eachCommandThatThrowsStopsAll() {
        commandError("a turn goes on", () -> inTurn(2, 50), "n;", 0);
        commandError("no turn goes on", () -> game(2, 50), "e;", 0);
        commandError("no turn goes on", () -> game(2, 50), "d;", 0);
        commandError("no act on the stack", () -> inTurn(2, 50), "r;", 0);
        commandError("acts on the stack", () -> inTurn(2, 50), "s1,5;e;", 1);
        commandError("an act was begun", () -> inTurn(2, 50), "s1,5;r;d;", 2);
        commandError("it was delayed already", () -> inTurn(2, 50), "d;c0;d;", 2);
        commandError("a turn goes on", () -> inTurn(2, 50), "d;n;c0;", 2);
        commandError("it has not delayed", () -> inTurn(2, 50), "e;c0;", 1);
        commandError("it has fallen", () -> inTurn(2, 50), "d;n;s0,50;r;e;c0;", 5);
        commandError("it has fallen in its turn", () -> inTurn(2, 50), "s0,50;r;e;", 2);
    }

    @Holds(promise = 24, says = "If one of them would throw an exception (an act also if no turn goes on), "
            + "nothing is changed.")
    void anActWithoutATurnThrows() {
        commandError("a strike in round 0", () -> game(2, 50), "s1,5;", 0);
        commandError("a heal in round 0", () -> game(2, 50), "h1,5;", 0);
        commandError("a strike behind the turn", () -> inTurn(2, 50), "e;s1,5;", 1);
        commandError("a heal behind a fall", () -> inTurn(2, 50), "s0,50;r;h0,5;", 2);
        commandError("nobody stands", SpeedTurns::new, "n;s0,1;", 1);
    }

    @Holds(promise = 24, says = "acts are begun by the fighter whose turn goes on")
    void theTurnsFighterActsAndAnswers() {
        SpeedTurns x = write(inTurn(2, 50), "s1,7;r;e;n;s0,8;");
        same("all", 5, x.carryOut());
        same("struck by the first", 43, x.fighter(1, 2));
        same("the second has begun", 1, x.stacked(0, 1));
        commandError("it does not answer itself", () -> inTurn(2, 50), "s1,5;h1,5;", 1);
        SpeedTurns y = inTurn(2, 50);
        y.act(0, STRIKE, 1, 5);
        y.act(1, STRIKE, 0, 5);
        write(y, "h0,1;");
        same("it answers another one", 1, y.carryOut());
        same("three acts", 3, y.value(5));
        same("its answer is used", 0, y.fighter(0, 4));
    }

    @Holds(promise = 24, says = "\"s\", a fighter digit, a comma and a power of one or two digits: "
            + "act() of the kind 0;")
    void powersOfAScriptFrom1To60() {
        String[] fine = {"1", "01", "9", "09", "10", "59", "60"};
        for (String power : fine) {
            SpeedTurns x = write(inTurn(2, 200), "s1," + power + ";r;");
            same("strike " + power, 2, x.carryOut());
            same("the life behind " + power, 200 - Integer.parseInt(power), x.fighter(1, 2));
            x.clearText();
            write(x, "h1," + power + ";r;");
            same("heal " + power, 2, x.carryOut());
            same("the life again behind " + power, 200, x.fighter(1, 2));
        }
        String[] wrong = {"0", "00", "61", "70", "99"};
        for (String power : wrong) {
            commandError("out of range", () -> inTurn(2, 50), "s1," + power + ";", 0);
            commandError("out of range", () -> inTurn(2, 50), "h1," + power + ";", 0);
            commandError("out of range, behind another", () -> inTurn(2, 50), "s0,1;r;h1," + power + ";", 2);
        }
    }

    @Holds(promise = 24, says = "\"c\" and a fighter digit: comeIn();")
    void fightersOfAScriptFrom0To9() {
        SpeedTurns x = write(inTurn(10, 50), "s0,1;r;s9,2;r;h9,1;r;");
        same("the first and the last", 6, x.carryOut());
        same("the first", 49, x.fighter(0, 2));
        same("the last", 49, x.fighter(9, 2));
        commandError("a tenth of nine", () -> inTurn(9, 50), "s9,1;", 0);
        commandError("a tenth of nine", () -> inTurn(9, 50), "h9,1;", 0);
        commandError("a tenth of nine", () -> game(9, 50), "c9;", 0);
        commandError("a first of none", SpeedTurns::new, "c0;", 0);
        SpeedTurns y = write(game(10, 50), "n;d;".repeat(10) + "c9;e;c0;e;");
        same("the last and the first come in", 24, y.carryOut());
        listIs("the list", y, 1, 2, 3, 4, 5, 6, 7, 8, 9, 0);
    }

    @Holds(promise = 24, says = "The text stays as it is.")
    void theTextStaysFromNoneToTheMost() {
        SpeedTurns x = write(new SpeedTurns(), "n;".repeat(60));
        same("once", 60, x.carryOut());
        same("twice", 60, x.carryOut());
        same("both", 120, x.value(3));
        same("the text", 120, x.clearText());
        SpeedTurns y = write(new SpeedTurns(), "n;x");
        same("a syntax error", -12, y.carryOut());
        same("the text", 3, y.clearText());
    }

    @Holds(promise = 24, says = "Undoable, if all are carried out (one saved state for all commands, "
            + "also if there are none).")
    void oneSavedStateForAllCommands() {
        undoable("no commands", () -> game(2, 50), SpeedTurns::carryOut);
        undoable("one", () -> write(game(2, 50), "n;"), SpeedTurns::carryOut);
        undoable("sixty", () -> write(game(2, 50), "n;e;".repeat(30)), SpeedTurns::carryOut);
        undoable("none, when all are saved", () -> game(5, 50), SpeedTurns::carryOut);
        undoable("one that changes no number", () -> write(game(1, 50), "n;d;c0;"), SpeedTurns::carryOut);
    }

    @Holds(promise = 24, says = "If one of them would throw an exception (an act also if no turn goes on), "
            + "nothing is changed.")
    void whatWasNotCarriedOutSavesNoState() {
        same("a command error", 2, savedBehind("n;n;"));
        same("a syntax error", 2, savedBehind("n;n"));
        same("all carried out", 3, savedBehind("n;e;"));
    }

    private static int savedBehind(String text) {
        SpeedTurns x = write(game(2, 50), text);
        x.carryOut();
        return savedStates(x);
    }
}
