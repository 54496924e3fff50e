import java.util.ArrayDeque;
import java.util.ArrayList;
import java.util.Comparator;
import java.util.Deque;
import java.util.HashMap;
import java.util.HashSet;
import java.util.List;
import java.util.Map;
import java.util.Set;
import java.util.regex.Matcher;
import java.util.regex.Pattern;

/** The document's words once more, with the Java library and no thought of room, to compare long runs with. */
final class Model {

    static final int NONE = -1;

    private static final Pattern SCRIPT = Pattern.compile("((n|e|d|r|c[0-9]|[sh][0-9],[0-9][0-9]?);)*");

    private static final class Fighter {
        int speed;
        int first;
        int life;
        boolean ready = true;
    }

    private static final class Effect {
        int kind;
        int power;
        int source;
        int target;
        int left;
        int clock;
        boolean held;

        int clockFighter() {
            return clock == 0 ? source : target;
        }
    }

    private record Act(int kind, int actor, int target, int power, int effect, int turns, int how) {
    }

    private enum Status { WAITING, HAD, DELAYED }

    private static final class World {
        final List<Fighter> fighters = new ArrayList<>();
        final List<Effect> effects = new ArrayList<>();
        final List<Integer> list = new ArrayList<>();
        final Map<Integer, Status> status = new HashMap<>();
        final Set<Integer> delayedThisRound = new HashSet<>();
        final List<Act> stack = new ArrayList<>();
        int round = 0;
        int turn = NONE;
        int latest = NONE;
        boolean actBegun = false;
        int shock = 10;
        int turns = 0;
        int ended = 0;

        World copy() {
            World w = new World();
            for (Fighter f : fighters) {
                Fighter g = new Fighter();
                g.speed = f.speed;
                g.first = f.first;
                g.life = f.life;
                g.ready = f.ready;
                w.fighters.add(g);
            }
            for (Effect e : effects) {
                w.effects.add(effect(e.kind, e.power, e.source, e.target, e.left, e.clock, e.held));
            }
            w.list.addAll(list);
            w.status.putAll(status);
            w.delayedThisRound.addAll(delayedThisRound);
            w.stack.addAll(stack);
            w.round = round;
            w.turn = turn;
            w.latest = latest;
            w.actBegun = actBegun;
            w.shock = shock;
            w.turns = turns;
            w.ended = ended;
            return w;
        }

        static Effect effect(int kind, int power, int source, int target, int left, int clock, boolean held) {
            Effect e = new Effect();
            e.kind = kind;
            e.power = power;
            e.source = source;
            e.target = target;
            e.left = left;
            e.clock = clock;
            e.held = held;
            return e;
        }

        boolean is(int fighter) {
            return fighter >= 0 && fighter < fighters.size();
        }

        boolean stands(int fighter) {
            return fighters.get(fighter).life > 0;
        }

        int presentSpeed(int fighter) {
            int speed = fighters.get(fighter).speed;
            for (Effect e : effects) {
                if (e.target == fighter) {
                    speed += e.kind == 1 ? e.power : e.kind == 2 ? -e.power : 0;
                }
            }
            return Math.max(speed, 1);
        }

        Effect held(int fighter) {
            return effects.stream().filter(e -> e.held && e.source == fighter).findFirst().orElse(null);
        }

        void endEffect(Effect e) {
            if (effects.remove(e)) {
                ended++;
            }
        }

        void harm(int fighter, int amount) {
            Fighter f = fighters.get(fighter);
            int loss = Math.min(amount, f.life);
            f.life -= loss;
            if (f.life == 0) {
                for (Effect e : new ArrayList<>(effects)) {
                    if (e.target == fighter) {
                        endEffect(e);
                    }
                }
                for (Effect e : new ArrayList<>(effects)) {
                    if (e.source == fighter && (e.held || e.clock == 0)) {
                        endEffect(e);
                    }
                }
            } else if (loss >= shock && held(fighter) != null) {
                endEffect(held(fighter));
            }
        }

        int next() {
            need(turn == NONE);
            Integer first = waiting();
            if (round == 0 || first == null) {
                round++;
                list.clear();
                status.clear();
                delayedThisRound.clear();
                for (int f = 0; f < fighters.size(); f++) {
                    if (stands(f)) {
                        list.add(f);
                        status.put(f, Status.WAITING);
                    }
                }
                list.sort(Comparator.comparing((Integer f) -> -presentSpeed(f)).thenComparing(f -> f));
                first = waiting();
            }
            if (first == null) {
                return NONE;
            }
            int fighter = first;
            turn = fighter;
            latest = fighter;
            turns++;
            actBegun = false;
            status.put(fighter, Status.HAD);
            fighters.get(fighter).ready = true;
            for (Effect e : new ArrayList<>(effects)) {
                if (e.kind == 0 && e.target == fighter && effects.contains(e) && stands(fighter)) {
                    harm(fighter, e.power);
                }
            }
            if (!stands(fighter)) {
                turn = NONE;
            } else if (effects.stream().anyMatch(e -> e.kind == 4 && e.target == fighter)) {
                finishTurn();
            }
            return fighter;
        }

        private Integer waiting() {
            for (int f : list) {
                if (status.get(f) == Status.WAITING && stands(f)) {
                    return f;
                }
            }
            return null;
        }

        int end() {
            need(turn != NONE && stack.isEmpty());
            return finishTurn();
        }

        int finishTurn() {
            int zeros = 0;
            for (Effect e : new ArrayList<>(effects)) {
                if (e.clockFighter() == turn && effects.contains(e)) {
                    e.left--;
                    if (e.left == 0) {
                        endEffect(e);
                        zeros++;
                    }
                }
            }
            turn = NONE;
            return zeros;
        }

        int delay() {
            need(turn != NONE && !actBegun && !delayedThisRound.contains(turn));
            int fighter = turn;
            delayedThisRound.add(fighter);
            status.put(fighter, Status.DELAYED);
            turn = NONE;
            return fighter;
        }

        int comeIn(int fighter) {
            needIndex(is(fighter));
            need(turn == NONE && status.get(fighter) == Status.DELAYED && stands(fighter));
            if (latest != fighter) {
                list.remove((Integer) fighter);
                list.add(list.indexOf(latest) + 1, fighter);
            }
            turn = fighter;
            latest = fighter;
            status.put(fighter, Status.HAD);
            return list.indexOf(fighter);
        }

        boolean mayAnswer(int fighter) {
            return !stack.isEmpty() && stack.size() < 8 && stands(fighter) && fighters.get(fighter).ready
                    && stack.get(stack.size() - 1).actor() != fighter;
        }

        int begin(Act act) {
            if (stack.isEmpty()) {
                need(turn != NONE && turn == act.actor() && act.kind() != 3);
            } else {
                need(mayAnswer(act.actor()));
                fighters.get(act.actor()).ready = false;
            }
            actBegun = true;
            stack.add(act);
            return stack.size();
        }

        int act(int fighter, int kind, int target, int power) {
            needIndex(is(fighter) && is(target));
            needArgument(kind == 0 || kind == 1 || kind == 3);
            needArgument(power >= 1 && power <= 60);
            return begin(new Act(kind, fighter, target, power, 0, 0, 0));
        }

        int settle() {
            need(!stack.isEmpty());
            int happened = 0;
            while (!stack.isEmpty()) {
                Act a = stack.remove(stack.size() - 1);
                if (stands(a.actor()) && (a.kind() == 3 || stands(a.target()))) {
                    happened++;
                    happen(a);
                }
            }
            if (turn != NONE && !stands(turn)) {
                turn = NONE;
            }
            return happened;
        }

        private void happen(Act a) {
            if (a.kind() == 0) {
                int shields = 0;
                for (Effect e : effects) {
                    shields += e.kind == 3 && e.target == a.target() ? e.power : 0;
                }
                harm(a.target(), Math.max(0, a.power() - shields));
            } else if (a.kind() == 1) {
                Fighter f = fighters.get(a.target());
                f.life = Math.min(f.first, f.life + a.power());
            } else if (a.kind() == 2) {
                boolean held = a.how() == 1 || a.how() == 3;
                if (held && held(a.actor()) != null) {
                    endEffect(held(a.actor()));
                }
                if (effects.size() < 30) {
                    int clock = a.how() >= 2 ? 1 : 0;
                    effects.add(effect(a.effect(), a.power(), a.actor(), a.target(), a.turns(), clock, held));
                }
            } else if (!stack.isEmpty()) {
                stack.remove(stack.size() - 1);
            }
        }

        void leaveTurn() {
            stack.clear();
            if (turn != NONE) {
                end();
            }
        }

        int pass() {
            int fighter = next();
            if (turn != NONE) {
                end();
            }
            return fighter;
        }

        int lives() {
            return fighters.stream().mapToInt(f -> f.life).sum();
        }
    }

    private World w = new World();
    private final Deque<World> saved = new ArrayDeque<>();
    private final StringBuilder text = new StringBuilder();

    private static void need(boolean possible) {
        if (!possible) {
            throw new IllegalStateException();
        }
    }

    private static void needIndex(boolean there) {
        if (!there) {
            throw new IndexOutOfBoundsException();
        }
    }

    private static void needArgument(boolean fine) {
        if (!fine) {
            throw new IllegalArgumentException();
        }
    }

    /** Goes on with a changed copy, and keeps what was before. */
    private int changed(World after, int answer) {
        saved.addLast(w);
        if (saved.size() > 4) {
            saved.removeFirst();
        }
        w = after;
        return answer;
    }

    int add(int speed, int life) {
        needArgument(speed >= 1 && speed <= 30 && life >= 1 && life <= 200);
        need(w.fighters.size() < 10);
        World after = w.copy();
        Fighter f = new Fighter();
        f.speed = speed;
        f.first = life;
        f.life = life;
        after.fighters.add(f);
        return changed(after, after.fighters.size() - 1);
    }

    int setSpeed(int fighter, int speed) {
        needIndex(w.is(fighter));
        needArgument(speed >= 1 && speed <= 30);
        World after = w.copy();
        after.fighters.get(fighter).speed = speed;
        return changed(after, w.fighters.get(fighter).speed);
    }

    int setShock(int shock) {
        needArgument(shock >= 1 && shock <= 200);
        World after = w.copy();
        after.shock = shock;
        return changed(after, w.shock);
    }

    int fighter(int fighter, int what) {
        needIndex(w.is(fighter));
        needArgument(what >= 0 && what <= 8);
        Fighter f = w.fighters.get(fighter);
        Status status = w.status.get(fighter);
        int held = w.held(fighter) == null ? NONE : w.effects.indexOf(w.held(fighter));
        int on = (int) w.effects.stream().filter(e -> e.target == fighter).count();
        int[] all = {f.speed, f.first, f.life, w.presentSpeed(fighter), f.ready ? 1 : 0,
            status == null ? NONE : status.ordinal(), w.list.indexOf(fighter), held, on};
        return all[what];
    }

    int effect(int effect, int what) {
        needIndex(effect >= 0 && effect < w.effects.size());
        needArgument(what >= 0 && what <= 6);
        Effect e = w.effects.get(effect);
        int[] all = {e.kind, e.power, e.source, e.target, e.left, e.clock, e.held ? 1 : 0};
        return all[what];
    }

    int value(int what) {
        needArgument(what >= 0 && what <= 8);
        int standing = 0;
        for (int f = 0; f < w.fighters.size(); f++) {
            standing += w.stands(f) ? 1 : 0;
        }
        int[] all = {w.fighters.size(), standing, w.effects.size(), w.round, w.turn, w.stack.size(), w.shock,
            w.turns, w.ended};
        return all[what];
    }

    int inList(int place) {
        needIndex(place >= 0 && place < w.list.size());
        return w.list.get(place);
    }

    int next() {
        World after = w.copy();
        return changed(after, after.next());
    }

    int end() {
        World after = w.copy();
        return changed(after, after.end());
    }

    int delay() {
        World after = w.copy();
        return changed(after, after.delay());
    }

    int comeIn(int fighter) {
        World after = w.copy();
        return changed(after, after.comeIn(fighter));
    }

    int act(int fighter, int kind, int target, int power) {
        World after = w.copy();
        return changed(after, after.act(fighter, kind, target, power));
    }

    int cast(int fighter, int target, int effect, int power, int turns, int how) {
        needIndex(w.is(fighter) && w.is(target));
        needArgument(effect >= 0 && effect <= 4 && power >= 1 && power <= 20 && turns >= 1 && turns <= 20);
        needArgument(how >= 0 && how <= 3);
        World after = w.copy();
        return changed(after, after.begin(new Act(2, fighter, target, power, effect, turns, how)));
    }

    int settle() {
        World after = w.copy();
        return changed(after, after.settle());
    }

    int stacked(int index, int what) {
        needIndex(index >= 0 && index < w.stack.size());
        needArgument(what >= 0 && what <= 3);
        Act a = w.stack.get(w.stack.size() - 1 - index);
        int[] all = {a.kind(), a.actor(), a.target(), a.power()};
        return all[what];
    }

    boolean mayAnswer(int fighter) {
        needIndex(w.is(fighter));
        return w.mayAnswer(fighter);
    }

    int upcoming(int index) {
        needArgument(index >= 0 && index <= 40);
        World copy = w.copy();
        copy.leaveTurn();
        for (int i = 0; i < index; i++) {
            copy.pass();
        }
        return copy.pass();
    }

    int goneAfter(int effect) {
        needIndex(effect >= 0 && effect < w.effects.size());
        World copy = w.copy();
        Effect watched = copy.effects.get(effect);
        copy.leaveTurn();
        int turns = 0;
        while (copy.effects.contains(watched)) {
            if (turns == 60) {
                return NONE;
            }
            copy.pass();
            turns++;
        }
        return turns;
    }

    int lifeSettled() {
        World copy = w.copy();
        if (!copy.stack.isEmpty()) {
            copy.settle();
        }
        return copy.lives();
    }

    double vigor() {
        int first = w.fighters.stream().mapToInt(f -> f.first).sum();
        return w.fighters.isEmpty() ? 0.0 : (double) w.lives() / (double) first;
    }

    int append(int value) {
        needArgument(value >= 0 && value <= 127);
        need(text.length() < 120);
        text.append((char) value);
        return text.length();
    }

    int clearText() {
        int length = text.length();
        text.setLength(0);
        return length;
    }

    int carryOut() {
        for (int i = 0; i < text.length(); i++) {
            Matcher m = SCRIPT.matcher(text.substring(0, i + 1));
            if (!m.matches() && !m.hitEnd()) {
                return -10 - i;
            }
        }
        if (!SCRIPT.matcher(text).matches()) {
            return -10 - text.length();
        }
        World after = w.copy();
        String[] commands = text.length() == 0 ? new String[0] : text.toString().split(";");
        for (int i = 0; i < commands.length; i++) {
            try {
                perform(after, commands[i]);
            } catch (IllegalStateException | IllegalArgumentException | IndexOutOfBoundsException e) {
                return -1000 - i;
            }
        }
        return changed(after, commands.length);
    }

    private static void perform(World world, String command) {
        switch (command.charAt(0)) {
            case 'n' -> world.next();
            case 'e' -> world.end();
            case 'd' -> world.delay();
            case 'r' -> world.settle();
            case 'c' -> world.comeIn(command.charAt(1) - '0');
            default -> {
                int kind = command.charAt(0) == 's' ? 0 : 1;
                world.act(world.turn, kind, command.charAt(1) - '0', Integer.parseInt(command.substring(3)));
            }
        }
    }

    int undo() {
        need(!saved.isEmpty());
        w = saved.removeLast();
        return saved.size();
    }

    long digest() {
        List<Integer> values = new ArrayList<>();
        values.add(text.length());
        for (int what = 0; what <= 8; what++) {
            values.add(value(what));
        }
        for (int f = 0; f < w.fighters.size(); f++) {
            for (int what = 0; what <= 8; what++) {
                values.add(fighter(f, what));
            }
        }
        for (int e = 0; e < w.effects.size(); e++) {
            for (int what = 0; what <= 6; what++) {
                values.add(effect(e, what));
            }
        }
        values.addAll(w.list);
        for (int index = 0; index < w.stack.size(); index++) {
            for (int what = 0; what <= 3; what++) {
                values.add(stacked(index, what));
            }
        }
        values.add(saved.size());
        long h = 3343;
        for (int v : values) {
            h = 31 * h + v;
        }
        return h;
    }
}
