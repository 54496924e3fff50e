import java.lang.reflect.Method;
import java.util.ArrayList;
import java.util.Comparator;
import java.util.List;
import java.util.function.Consumer;
import java.util.function.Supplier;
import java.util.function.ToLongFunction;

/** Tests of boundaries: each method with Holds is one, and is about one sentence of the document. */
abstract class Edges {

    static final Class<IndexOutOfBoundsException> INDEX = IndexOutOfBoundsException.class;
    static final Class<IllegalArgumentException> ARGUMENT = IllegalArgumentException.class;
    static final Class<IllegalStateException> STATE = IllegalStateException.class;
    static final int NONE = SpeedTurns.NONE;

    static final int POISON = 0;
    static final int HASTE = 1;
    static final int SLOW = 2;
    static final int SHIELD = 3;
    static final int STUN = 4;

    static final int STRIKE = 0;
    static final int HEAL = 1;
    static final int COUNTER = 3;

    /** The ways of cast: by whose turns the effect counts, and whether it is held. */
    static final int BY_SOURCE = 0;
    static final int BY_SOURCE_HELD = 1;
    static final int BY_TARGET = 2;
    static final int BY_TARGET_HELD = 3;

    private final Check check = new Check(getClass().getName());
    private String test = "";

    /** Runs the tests in the order of the promises. */
    final void run() throws ReflectiveOperationException {
        for (Method method : tests(getClass())) {
            Holds holds = method.getAnnotation(Holds.class);
            test = "P" + holds.promise() + " " + method.getName() + ": ";
            method.invoke(this);
        }
        check.finish();
    }

    static List<Method> tests(Class<?> edges) {
        List<Method> tests = new ArrayList<>();
        for (Method method : edges.getDeclaredMethods()) {
            if (method.isAnnotationPresent(Holds.class)) {
                tests.add(method);
            }
        }
        tests.sort(Comparator.comparingInt((Method m) -> m.getAnnotation(Holds.class).promise())
                .thenComparing(Method::getName));
        return tests;
    }

    // ---- what is due

    final void same(String what, long due, long got) {
        check.same(test + what, due, got);
    }

    final void same(String what, double due, double got) {
        check.same(test + what, due, got);
    }

    final void same(String what, String due, String got) {
        check.same(test + what, due, got);
    }

    final void yes(String what, boolean got) {
        check.yes(test + what, got);
    }

    final void no(String what, boolean got) {
        check.no(test + what, got);
    }

    /** The call throws, and then the object goes on in each way as one that was made in the same way without it. */
    final void refuses(String what, Supplier<SpeedTurns> made, Class<?> due, Consumer<SpeedTurns> call) {
        for (Seen.Way way : Seen.Way.values()) {
            SpeedTurns x = made.get();
            Class<?> got = null;
            try {
                call.accept(x);
            } catch (RuntimeException e) {
                got = e.getClass();
            }
            same(what + " throws", String.valueOf(due), String.valueOf(got));
            same(what + " changes nothing", Seen.by(way, made.get()), Seen.by(way, x));
        }
    }

    /** The call answers, and then the object goes on in each way as one that was made in the same way without it. */
    final void leaves(String what, Supplier<SpeedTurns> made, long due, ToLongFunction<SpeedTurns> call) {
        for (Seen.Way way : Seen.Way.values()) {
            SpeedTurns x = made.get();
            same(what, due, call.applyAsLong(x));
            same(what + " changes nothing", Seen.by(way, made.get()), Seen.by(way, x));
        }
    }

    /** The call saves one state, and undo brings back all that was before it. */
    final void undoable(String what, Supplier<SpeedTurns> made, Consumer<SpeedTurns> call) {
        int before = savedStates(made.get());
        SpeedTurns changed = made.get();
        call.accept(changed);
        same(what + " saves one state", Math.min(4, before + 1), savedStates(changed));
        for (Seen.Way way : Seen.Way.values()) {
            if (way == Seen.Way.UNDO) {
                continue;
            }
            SpeedTurns x = made.get();
            call.accept(x);
            same(what + " is undone, so many remain", Math.min(3, before), x.undo());
            same(what + " is undone", Seen.by(way, made.get()), Seen.by(way, x));
        }
    }

    /** Takes all of them away. */
    static int savedStates(SpeedTurns x) {
        int states = 0;
        while (states < 5 && mayUndo(x)) {
            states++;
        }
        return states;
    }

    private static boolean mayUndo(SpeedTurns x) {
        try {
            x.undo();
            return true;
        } catch (IllegalStateException e) {
            return false;
        }
    }

    final void values(String what, SpeedTurns x, int... due) {
        for (int i = 0; i < due.length; i++) {
            same(what + ", value " + i, due[i], x.value(i));
        }
    }

    final void fighterIs(String what, SpeedTurns x, int fighter, int... due) {
        for (int i = 0; i < due.length; i++) {
            same(what + ", fighter " + fighter + ", what " + i, due[i], x.fighter(fighter, i));
        }
    }

    final void effectIs(String what, SpeedTurns x, int effect, int... due) {
        for (int i = 0; i < due.length; i++) {
            same(what + ", effect " + effect + ", what " + i, due[i], x.effect(effect, i));
        }
    }

    /** The whole list, and no fighter more. */
    final void listIs(String what, SpeedTurns x, int... due) {
        for (int place = 0; place < due.length; place++) {
            same(what + ", place " + place, due[place], x.inList(place));
            same(what + ", place of " + due[place], place, x.fighter(due[place], 6));
        }
        int listed = 0;
        for (int fighter = 0; fighter < x.value(0); fighter++) {
            listed += x.fighter(fighter, 6) == NONE ? 0 : 1;
        }
        same(what + ", fighters of the list", due.length, listed);
    }

    // ---- games

    /** Fighters by descending speeds, so that each list has them by their numbers. */
    static SpeedTurns game(int fighters, int life) {
        SpeedTurns x = new SpeedTurns();
        for (int i = 0; i < fighters; i++) {
            x.add(20 - i, life);
        }
        return x;
    }

    /** Such a game, in the turn of fighter 0. */
    static SpeedTurns inTurn(int fighters, int life) {
        SpeedTurns x = game(fighters, life);
        x.next();
        return x;
    }

    /** The turn's fighter puts an effect on the target. */
    static void begin(SpeedTurns x, int target, int kind, int power, int turns, int how) {
        x.cast(x.value(4), target, kind, power, turns, how);
        x.settle();
    }

    /** Thirty effects of the kind, none of them held, that end at the same time. */
    static SpeedTurns withThirty(SpeedTurns x, int target, int kind, int power, int turns, int how) {
        for (int i = 0; i < 30; i++) {
            begin(x, target, kind, power, turns, how);
        }
        return x;
    }

    /** The turn's fighter strikes. */
    static void strike(SpeedTurns x, int target, int power) {
        x.act(x.value(4), STRIKE, target, power);
        x.settle();
    }

    /** The turn's fighter heals. */
    static void heal(SpeedTurns x, int target, int power) {
        x.act(x.value(4), HEAL, target, power);
        x.settle();
    }

    /** Ends the turn and lets the next one begin. */
    static int endAndNext(SpeedTurns x) {
        x.end();
        return x.next();
    }

    static SpeedTurns write(SpeedTurns x, String text) {
        for (int i = 0; i < text.length(); i++) {
            x.append(text.charAt(i));
        }
        return x;
    }

    /** Numbers that an argument from least to most may not be. */
    static int[] outside(int least, int most) {
        return new int[] {least - 1, most + 1, Integer.MIN_VALUE, Integer.MAX_VALUE, least - 256, most + 65536};
    }
}
