/** Promises 22 to 24: append, clearText, carryOut. */
public final class TextTest {

    private static final Class<IllegalArgumentException> ARGUMENT = IllegalArgumentException.class;
    private static final Class<IllegalStateException> STATE = IllegalStateException.class;
    private static final int NONE = SpeedTurns.NONE;

    public static void main(String[] args) {
        Check c = new Check("TextTest");
        append(c);
        syntax(c);
        everyByte(c);
        commands(c);
        commandErrors(c);
        oneSavedState(c);
        c.finish();
    }

    private static SpeedTurns game() {
        SpeedTurns x = new SpeedTurns();
        x.add(9, 100);
        x.add(8, 100);
        return x;
    }

    private static int carryOut(SpeedTurns x, String text) {
        x.clearText();
        for (int i = 0; i < text.length(); i++) {
            x.append(text.charAt(i));
        }
        return x.carryOut();
    }

    /** Promises 22 and 23: "`value`: the byte, 0 to 127", "if the text has 120 bytes", "the length that it had". */
    private static void append(Check c) {
        SpeedTurns x = new SpeedTurns();
        c.same("P23 no text", 0, x.clearText());
        c.fails("P22 byte -1", x, ARGUMENT, () -> x.append(-1));
        c.fails("P22 byte 128", x, ARGUMENT, () -> x.append(128));
        c.same("P22 the least byte", 1, x.append(0));
        c.same("P22 the greatest byte", 2, x.append(127));
        for (int i = 2; i < 120; i++) {
            c.same("P22 the length", i + 1, x.append(';'));
        }
        c.fails("P22 byte 121", x, STATE, () -> x.append(';'));
        c.fails("P22 a wrong one: the argument first", x, ARGUMENT, () -> x.append(128));
        c.fails("P22 the text is not saved", x, STATE, () -> x.undo());
        c.same("P23 all of it", 120, x.clearText());
        c.same("P23 none left", 0, x.clearText());
        c.same("P22 from the start again", 1, x.append('n'));
        x.add(5, 5);
        x.append(';');
        x.undo();
        c.same("P25 undo leaves the text", 2, x.clearText());
    }

    /** Promise 24: "-10 minus the syntax error position if there is a syntax error". */
    private static void syntax(Check c) {
        String[] early = {"n", "e", "d", "r", "c", "c1", "s", "s1", "s1,", "s1,5", "s1,55", "h", "h1,", "n;e", "n;e;c"};
        for (String text : early) {
            SpeedTurns x = game();
            c.same("P24 ends too early: " + text, -10 - text.length(), carryOut(x, text));
        }
        Object[][] wrong = {
            {"x", 0}, {";", 0}, {" n;", 0}, {"N;", 0}, {"1;", 0}, {"n;;", 2}, {"nn;", 1}, {"n ;", 1}, {"c;", 1},
            {"ca;", 1}, {"c12;", 2}, {"c1,2;", 2}, {"s,5;", 1}, {"s1;", 2}, {"s12,5;", 2}, {"s1,;", 3}, {"s1,a;", 3},
            {"s1,5,;", 4}, {"s1,55,;", 5}, {"s1,555;", 5}, {"h1,-5;", 3}, {"h1,555", 5}, {"n;e;r;d;s1,5;!", 13},
            {"s/,5;", 1}, {"s:,5;", 1}, {"e1;", 1}, {"n;\0", 2}, {"h1 ,5;", 2},
        };
        for (Object[] row : wrong) {
            SpeedTurns x = game();
            long before = stateWithoutText(x);
            c.same("P24 syntax of " + row[0], -10 - (int) row[1], carryOut(x, (String) row[0]));
            c.same("P24 nothing has changed by " + row[0], before, stateWithoutText(x));
        }
    }

    private static long stateWithoutText(SpeedTurns x) {
        x.clearText();
        return x.digest();
    }

    /** Promise 24: "the first byte that cannot stand where it stands", for all bytes at some places. */
    private static void everyByte(Check c) {
        SpeedTurns x = game();
        for (int b = 0; b <= 127; b++) {
            x.clearText();
            x.append(b);
            int due = "nedcshr".indexOf(b) >= 0 ? -11 : -10;
            c.same("P24 byte " + b + " at the start", due, x.carryOut());
            x.clearText();
            x.append('s');
            x.append(b);
            c.same("P24 byte " + b + " behind s", b >= '0' && b <= '9' ? -12 : -11, x.carryOut());
        }
        SpeedTurns y = game();
        for (int b = 0; b <= 127; b++) {
            y.clearText();
            y.append('h');
            y.append('1');
            y.append(b);
            c.same("P24 byte " + b + " behind h1", b == ',' ? -13 : -12, y.carryOut());
        }
        SpeedTurns z = game();
        for (int b = 0; b <= 100; b++) {
            z.clearText();
            z.append('e');
            z.append(b);
            c.same("P24 byte " + b + " behind e", b == ';' ? -1000 : -11, z.carryOut());
        }
    }

    /** Promise 24: "Carries out the commands of the text one after the other, as by the methods". */
    private static void commands(Check c) {
        SpeedTurns x = game();
        c.same("P24 no commands", 0, carryOut(x, ""));
        c.same("P24 all of them", 9, carryOut(x, "n;s1,30;r;h1,05;r;e;n;d;c1;"));
        c.same("P24 struck and healed", 75, x.fighter(1, 2));
        c.same("P24 came in", 1, x.value(4));
        c.same("P24 its place", 1, x.fighter(1, 6));
        c.same("P24 the text stays", 27, x.clearText());
        c.same("P24 a power of one digit", 4, carryOut(x, "s0,7;r;s0,60;r;"));
        c.same("P24 struck by the one whose turn goes on", 33, x.fighter(0, 2));
        x.act(1, 0, 0, 1);
        x.act(0, 0, 1, 1);
        c.same("P24 the one whose turn goes on answers", 2, carryOut(x, "h0,60;r;"));
        c.same("P24 its answer is used", 0, x.fighter(1, 4));
        c.same("P24 healed, struck", 92, x.fighter(0, 2));
        c.same("P24 struck", 74, x.fighter(1, 2));
        c.same("P24 the least powers", 4, carryOut(x, "s1,1;r;h1,01;r;"));
        c.same("P24 struck by 1 and healed by 1", 74, x.fighter(1, 2));
        c.same("P24 to the last byte", 60, carryOut(x, "e;n;".repeat(30)));
        c.same("P24 31 turns more or less", 32, x.value(7));
        SpeedTurns nobody = new SpeedTurns();
        c.same("P24 next for nobody is no error", 2, carryOut(nobody, "n;n;"));
        c.same("P24 two rounds", 2, nobody.value(3));
    }

    /** Promise 24: "If one of them would throw an exception [..], nothing is changed." */
    private static void commandErrors(Check c) {
        Object[][] wrong = {
            {"e;", 0}, {"d;", 0}, {"r;", 0}, {"s1,5;", 0}, {"h1,5;", 0}, {"c0;", 0}, {"c9;", 0}, {"n;n;", 1},
            {"n;e;e;", 2}, {"n;s0,0;", 1}, {"n;s0,00;", 1}, {"n;s0,61;", 1}, {"n;h0,99;", 1}, {"n;s2,5;", 1},
            {"n;h9,5;", 1}, {"n;s1,5;s1,5;", 2}, {"n;s1,5;e;", 2}, {"n;s1,5;d;", 2}, {"n;s1,5;r;d;", 3}, {"n;c0;", 1},
            {"n;d;c0;d;", 3}, {"n;d;c1;", 2}, {"n;e;c0;", 2}, {"n;s0,60;r;s0,60;r;s0,60;", 5}, {"n;r;", 1},
            {"n;e;n;e;n;e;n;e;n;e;n;e;n;e;n;e;r;", 16},
        };
        for (Object[] row : wrong) {
            SpeedTurns x = game();
            long before = stateWithoutText(x);
            c.same("P24 throws: " + row[0], -1000 - (int) row[1], carryOut(x, (String) row[0]));
            c.same("P24 nothing has changed by " + row[0], before, stateWithoutText(x));
            c.same("P24 no state was saved by " + row[0], 1, x.undo());
        }
    }

    /** Promise 24: "(one saved state for all commands, also if there are none)". */
    private static void oneSavedState(Check c) {
        SpeedTurns x = game();
        carryOut(x, "");
        c.same("P24 one saved state for no commands", 2, x.undo());
        long before = stateWithoutText(x);
        carryOut(x, "n;s1,30;r;e;n;e;");
        c.same("P24 all at once", 2, x.undo());
        c.same("P24 undone", before, stateWithoutText(x));
        c.same("P24 no turn", NONE, x.value(4));
    }
}
