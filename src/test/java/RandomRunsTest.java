/** All promises: long runs of calls, each answer beside the one of Model. The runs are the same each time. */
public final class RandomRunsTest {

    private static final int RUNS = 300;
    private static final int CALLS = 500;
    private static final String[] NAMES = {"nothing", "IndexOutOfBounds", "IllegalArgument", "IllegalState"};

    private interface Answer {
        long get();
    }

    private final Check c;
    private final int run;
    private final SpeedTurns x = new SpeedTurns();
    private final Model m = new Model();
    private final int[] thrown;
    private final int mostLife;
    private final int wrongInTenThousand;
    private long seed;

    private RandomRunsTest(Check c, int run, int[] thrown) {
        this.c = c;
        this.run = run;
        this.seed = 1000003L * run + 17;
        this.thrown = thrown;
        this.mostLife = run % 3 == 0 ? 30 : 200;
        this.wrongInTenThousand = run % 5 == 0 ? 1500 : 150;
    }

    public static void main(String[] args) {
        Check c = new Check("RandomRunsTest");
        int[] thrown = new int[NAMES.length];
        for (int run = 0; run < RUNS; run++) {
            new RandomRunsTest(c, run, thrown).play();
        }
        for (int i = 0; i < thrown.length; i++) {
            c.yes("calls that throw " + NAMES[i] + ": " + thrown[i], thrown[i] > 500);
        }
        c.finish();
    }

    private int pick(int below) {
        seed = seed * 6364136223846793005L + 1442695040888963407L;
        return (int) ((seed >>> 33) % below);
    }

    /** Mostly in the range, sometimes beside it, seldom far from it. */
    private int arg(int least, int most) {
        if (pick(10000) >= wrongInTenThousand) {
            return least + pick(most - least + 1);
        }
        int[] odd = {least - 1, most + 1, Integer.MIN_VALUE, Integer.MAX_VALUE, -1, 0};
        return odd[pick(odd.length)];
    }

    private int fighterArg() {
        return arg(0, Math.max(0, m.value(0) - 1));
    }

    private void play() {
        int first = 1 + pick(10);
        for (int i = 0; i < first; i++) {
            addOne();
        }
        for (int call = first; call < CALLS; call++) {
            step();
            same("digest()", x::digest, m::digest);
            look();
        }
    }

    private void step() {
        int turn = m.value(4);
        int acts = m.value(5);
        int choice = pick(100);
        if (choice < 4) {
            undoOrSet();
        } else if (choice < 10) {
            script();
        } else if (choice < 14) {
            same("next()", x::next, m::next);
        } else if (choice < 18) {
            same("end()", x::end, m::end);
        } else if (choice < 21) {
            same("settle()", x::settle, m::settle);
        } else if (choice < 24) {
            actOrCast(fighterArg());
        } else if (turn == Model.NONE) {
            betweenTurns();
        } else if (acts == 0) {
            inTurn(turn);
        } else if (pick(3) == 0) {
            same("settle()", x::settle, m::settle);
        } else {
            actOrCast(pick(4) == 0 ? turn : fighterArg());
        }
    }

    private void betweenTurns() {
        int comer = fighterArg();
        if (pick(3) == 0) {
            same("comeIn(" + comer + ")", () -> x.comeIn(comer), () -> m.comeIn(comer));
        } else {
            same("next()", x::next, m::next);
        }
    }

    private void inTurn(int turn) {
        int choice = pick(8);
        if (choice < 2) {
            same("delay()", x::delay, m::delay);
        } else if (choice < 4) {
            same("end()", x::end, m::end);
        } else {
            actOrCast(turn);
        }
    }

    private void undoOrSet() {
        int choice = pick(6);
        if (choice < 3) {
            same("undo()", x::undo, m::undo);
        } else if (choice == 3) {
            int shock = pick(3) == 0 ? arg(1, 200) : arg(1, 12);
            same("setShock(" + shock + ")", () -> x.setShock(shock), () -> m.setShock(shock));
        } else if (choice == 4) {
            int fighter = fighterArg();
            int speed = arg(1, 30);
            same("setSpeed(" + fighter + ", " + speed + ")", () -> x.setSpeed(fighter, speed),
                    () -> m.setSpeed(fighter, speed));
        } else {
            addOne();
        }
    }

    private void addOne() {
        int speed = arg(1, 30);
        int life = arg(1, mostLife);
        same("add(" + speed + ", " + life + ")", () -> x.add(speed, life), () -> m.add(speed, life));
    }

    private void actOrCast(int actor) {
        int target = fighterArg();
        if (pick(2) == 0) {
            int kind = pick(5) == 0 ? arg(0, 3) : pick(2) * 3 + (pick(3) == 0 ? 1 : 0);
            int power = pick(3) == 0 ? arg(1, 60) : arg(1, 12);
            same("act(" + actor + ", " + kind + ", " + target + ", " + power + ")",
                    () -> x.act(actor, kind, target, power), () -> m.act(actor, kind, target, power));
        } else {
            int effect = arg(0, 4);
            int power = pick(2) == 0 ? arg(1, 20) : arg(1, 4);
            int turns = pick(2) == 0 ? arg(1, 20) : arg(1, 3);
            int how = arg(0, 3);
            same("cast(" + actor + ", " + target + ", " + effect + ", " + power + ", " + turns + ", " + how + ")",
                    () -> x.cast(actor, target, effect, power, turns, how),
                    () -> m.cast(actor, target, effect, power, turns, how));
        }
    }

    private void script() {
        same("clearText()", x::clearText, m::clearText);
        StringBuilder text = new StringBuilder();
        int commands = pick(8);
        boolean onTurn = m.value(4) != Model.NONE;
        for (int i = 0; i < commands; i++) {
            String command = command(onTurn);
            char letter = command.charAt(0);
            onTurn = letter != 'e' && letter != 'd' && (letter == 'n' || letter == 'c' || onTurn);
            text.append(command);
        }
        if (pick(4) == 0 && text.length() > 0) {
            text.setCharAt(pick(text.length()), "nedcshr;,019 ~".charAt(pick(14)));
        }
        if (pick(10) == 0) {
            text.setLength(pick(text.length() + 1));
        }
        for (int i = 0; i < text.length(); i++) {
            int value = text.charAt(i);
            same("append(" + value + ")", () -> x.append(value), () -> m.append(value));
        }
        same("carryOut() of " + text, x::carryOut, m::carryOut);
    }

    private String command(boolean onTurn) {
        int fighter = pick(Math.max(1, m.value(0)));
        if (pick(12) == 0) {
            return "nedr".charAt(pick(4)) + ";";
        }
        if (!onTurn) {
            return pick(5) == 0 ? "c" + fighter + ";" : "n;";
        }
        String act = (pick(2) == 0 ? "s" : "h") + fighter + "," + pick(pick(4) == 0 ? 100 : 30) + ";";
        switch (pick(4)) {
            case 0:
                return act + "r;";
            case 1:
                return "d;";
            case 2:
                return "e;";
            default:
                return pick(3) == 0 ? act : act + "r;e;";
        }
    }

    private void look() {
        int index = arg(0, 40);
        int effect = arg(0, Math.max(0, m.value(2) - 1));
        int fighter = fighterArg();
        same("upcoming(" + index + ")", () -> x.upcoming(index), () -> m.upcoming(index));
        same("goneAfter(" + effect + ")", () -> x.goneAfter(effect), () -> m.goneAfter(effect));
        same("mayAnswer(" + fighter + ")", () -> x.mayAnswer(fighter) ? 1 : 0, () -> m.mayAnswer(fighter) ? 1 : 0);
        same("lifeSettled()", x::lifeSettled, m::lifeSettled);
        same("vigor()", () -> Double.doubleToLongBits(x.vigor()), () -> Double.doubleToLongBits(m.vigor()));
        int what = arg(0, 8);
        same("fighter(" + fighter + ", " + what + ")", () -> x.fighter(fighter, what), () -> m.fighter(fighter, what));
        same("effect(" + effect + ", " + what + ")", () -> x.effect(effect, what), () -> m.effect(effect, what));
        same("value(" + what + ")", () -> x.value(what), () -> m.value(what));
        same("inList(" + fighter + ")", () -> x.inList(fighter), () -> m.inList(fighter));
        same("stacked(" + fighter + ", " + what + ")", () -> x.stacked(fighter, what), () -> m.stacked(fighter, what));
        same("digest() behind the questions", x::digest, m::digest);
    }

    private void same(String call, Answer got, Answer due) {
        int[] gotThrown = {0};
        int[] dueThrown = {0};
        long gotAnswer = asked(got, gotThrown);
        long dueAnswer = asked(due, dueThrown);
        thrown[dueThrown[0]]++;
        c.same("run " + run + ": " + call + " throws (a number of NAMES)", dueThrown[0], gotThrown[0]);
        c.same("run " + run + ": " + call, dueAnswer, gotAnswer);
    }

    private static long asked(Answer answer, int[] thrown) {
        try {
            return answer.get();
        } catch (IndexOutOfBoundsException e) {
            // What the machine throws is a class below this one.
            thrown[0] = e.getClass() == IndexOutOfBoundsException.class ? 1 : 99;
        } catch (IllegalArgumentException e) {
            thrown[0] = 2;
        } catch (IllegalStateException e) {
            thrown[0] = 3;
        }
        return 0;
    }
}
