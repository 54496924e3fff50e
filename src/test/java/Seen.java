import java.util.function.LongSupplier;

/** What the calls of the face tell of an object, as a text; two objects in the same state tell the same. */
final class Seen {

    /** Calls that show what no question tells: whether an act was begun, whose turn was the latest, what is saved. */
    enum Way { QUESTIONS, UNDO, NEXT, END, DELAY, COME_IN, SETTLE, ACTS, SCRIPT, TEXT }

    private Seen() {
    }

    /** Makes the calls of a way and tells what each answered, and what the questions answer then. */
    static String by(Way way, SpeedTurns x) {
        StringBuilder text = new StringBuilder(way.name());
        switch (way) {
            case QUESTIONS -> { }
            case UNDO -> undo(text, x);
            case NEXT -> tell(text, x::next);
            case END -> tell(text, x::end);
            case DELAY -> tell(text, x::delay);
            case COME_IN -> comeIn(text, x);
            case SETTLE -> tell(text, x::settle);
            case ACTS -> acts(text, x);
            case SCRIPT -> {
                tell(text, x::carryOut);
                tell(text, x::clearText);
            }
            case TEXT -> {
                tell(text, () -> x.append(';'));
                tell(text, x::clearText);
            }
        }
        questions(text, x);
        return text.toString();
    }

    /** An object lasts 512 calls, so the states between are told by their hash alone. */
    private static void undo(StringBuilder text, SpeedTurns x) {
        for (int i = 0; i < 5; i++) {
            tell(text, x::digest);
            tell(text, x::undo);
        }
    }

    private static void comeIn(StringBuilder text, SpeedTurns x) {
        for (int i = 0; i < x.value(0); i++) {
            int fighter = i;
            tell(text, () -> x.comeIn(fighter));
            tell(text, x::end);
        }
    }

    private static void acts(StringBuilder text, SpeedTurns x) {
        for (int i = 0; i < x.value(0); i++) {
            int fighter = i;
            tell(text, () -> x.act(fighter, 0, fighter, 1));
        }
        tell(text, x::settle);
    }

    /** All questions but digest, which would tell the number of the saved states, too. */
    private static void questions(StringBuilder text, SpeedTurns x) {
        for (int what = 0; what <= 8; what++) {
            int asked = what;
            tell(text, () -> x.value(asked));
        }
        for (int fighter = 0; fighter < x.value(0); fighter++) {
            fighter(text, x, fighter);
        }
        for (int effect = 0; effect < x.value(2); effect++) {
            effect(text, x, effect);
        }
        for (int index = 0; index < x.value(5); index++) {
            for (int what = 0; what <= 3; what++) {
                text.append(' ').append(x.stacked(index, what));
            }
        }
        for (int index = 0; index <= 40; index += 8) {
            text.append(' ').append(x.upcoming(index));
        }
        text.append(' ').append(x.lifeSettled()).append(' ').append(x.vigor());
    }

    private static void fighter(StringBuilder text, SpeedTurns x, int fighter) {
        for (int what = 0; what <= 8; what++) {
            text.append(' ').append(x.fighter(fighter, what));
        }
        tell(text, () -> x.inList(fighter));
        text.append(' ').append(x.mayAnswer(fighter));
    }

    private static void effect(StringBuilder text, SpeedTurns x, int effect) {
        for (int what = 0; what <= 6; what++) {
            text.append(' ').append(x.effect(effect, what));
        }
        text.append(' ').append(x.goneAfter(effect));
    }

    private static void tell(StringBuilder text, LongSupplier call) {
        text.append(' ');
        try {
            text.append(call.getAsLong());
        } catch (RuntimeException e) {
            text.append(e.getClass().getSimpleName());
        }
    }
}
