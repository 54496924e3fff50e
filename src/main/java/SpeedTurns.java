import java.util.Arrays;

/**
 * A tracker of turns in a game of many: who acts when, who answers, which effects last, and what would come of it.
 * The document ../shared/DOC.md says what each call answers.
 */
public final class SpeedTurns {

    /** There is no such thing. */
    public static final int NONE = -1;

    private static final int MOST_FIGHTERS = 10;
    private static final int MOST_SPEED = 30;
    private static final int MOST_LIFE = 200;
    private static final int MOST_SHOCK = 200;
    private static final int MOST_EFFECTS = 30;
    private static final int MOST_EFFECT_POWER = 20;
    private static final int MOST_EFFECT_TURNS = 20;
    private static final int MOST_HOW = 3;
    private static final int MOST_ACTS = 8;
    private static final int MOST_ACT_POWER = 60;
    private static final int MOST_SAVED = 4;
    private static final int MOST_BYTES = 120;
    private static final int MOST_BYTE = 127;

    private static final int LAST_ABOUT_FIGHTER = 8;
    private static final int LAST_ABOUT_EFFECT = 6;
    private static final int LAST_ABOUT_GAME = 8;
    private static final int LAST_ABOUT_ACT = 3;
    private static final int LAST_UPCOMING = 40;
    private static final int TURNS_LOOKED_AHEAD = 60;

    private static final int SYNTAX_ERROR = -10;
    private static final int COMMAND_ERROR = -1000;
    private static final long DIGEST_START = 3343L;

    private static final int POISON = 0;
    private static final int HASTE = 1;
    private static final int SLOW = 2;
    private static final int SHIELD = 3;
    private static final int STUN = 4;

    private static final int STRIKE = 0;
    private static final int HEAL = 1;
    private static final int EFFECT = 2;
    private static final int COUNTER = 3;

    private final Game game;
    private final Game scratch;
    private final History history;
    private final Script script;

    /** Creates a game without fighters, in round 0. */
    public SpeedTurns() {
        game = new Game();
        scratch = new Game();
        history = new History();
        script = new Script();
    }

    // ---- fighters

    /** Adds a fighter; it is in the list from the next round on. */
    public int add(int speed, int life) throws IllegalArgumentException, IllegalStateException {
        if (!within(speed, 1, MOST_SPEED) || !within(life, 1, MOST_LIFE)) {
            throw new IllegalArgumentException("speed or life is out of range");
        }
        if (game.fighterCount() >= MOST_FIGHTERS) {
            throw new IllegalStateException("there is no room for one more fighter");
        }
        history.save(game);
        return game.join(speed, life);
    }

    /** Sets the speed of a fighter and answers the previous one. */
    public int setSpeed(int fighter, int speed) throws IndexOutOfBoundsException, IllegalArgumentException {
        requireFighter(fighter);
        requireWithin(speed, 1, MOST_SPEED);
        history.save(game);
        return game.changeSpeed(fighter, speed);
    }

    /** Sets the shock and answers the previous one. */
    public int setShock(int shock) throws IllegalArgumentException {
        requireWithin(shock, 1, MOST_SHOCK);
        history.save(game);
        return game.changeShock(shock);
    }

    /** Answers something about a fighter. */
    public int fighter(int fighter, int what) throws IndexOutOfBoundsException, IllegalArgumentException {
        requireFighter(fighter);
        requireWithin(what, 0, LAST_ABOUT_FIGHTER);
        return game.aboutFighter(fighter, what);
    }

    /** Answers something about an effect. */
    public int effect(int effect, int what) throws IndexOutOfBoundsException, IllegalArgumentException {
        requireEffect(effect);
        requireWithin(what, 0, LAST_ABOUT_EFFECT);
        return game.aboutEffect(effect, what);
    }

    /** Answers a number of the game. */
    public int value(int what) throws IllegalArgumentException {
        requireWithin(what, 0, LAST_ABOUT_GAME);
        return game.number(what);
    }

    /** Answers the fighter at a place in the list of the round. */
    public int inList(int place) throws IndexOutOfBoundsException {
        if (!within(place, 0, game.listLength() - 1)) {
            throw new IndexOutOfBoundsException("the list has no such place");
        }
        return game.listed(place);
    }

    // ---- turns

    /** Lets the next turn begin and answers whose it is. */
    public int next() throws IllegalStateException {
        requirePossible(game.mayBeginTurn());
        history.save(game);
        return game.beginTurn();
    }

    /** Ends the turn and answers how many effects have counted down to 0 by this. */
    public int end() throws IllegalStateException {
        requirePossible(game.mayEndTurn());
        history.save(game);
        return game.endTurn();
    }

    /** Delays the turn and answers whose it was. */
    public int delay() throws IllegalStateException {
        requirePossible(game.mayDelayTurn());
        history.save(game);
        return game.delayTurn();
    }

    /** Lets a fighter that has delayed come in and answers its place in the list then. */
    public int comeIn(int fighter) throws IndexOutOfBoundsException, IllegalStateException {
        requireFighter(fighter);
        requirePossible(game.mayResumeTurn(fighter));
        history.save(game);
        return game.resumeTurn(fighter);
    }

    // ---- acts

    /** Begins a strike, a heal or a counter and answers the number of acts on the stack. */
    public int act(int fighter, int kind, int target, int power)
            throws IndexOutOfBoundsException, IllegalArgumentException, IllegalStateException {
        requireFighter(fighter);
        requireFighter(target);
        if (kind != STRIKE && kind != HEAL && kind != COUNTER) {
            throw new IllegalArgumentException("no act of this kind");
        }
        requireWithin(power, 1, MOST_ACT_POWER);
        requirePossible(game.mayAct(fighter, kind));
        history.save(game);
        return game.beginAct(kind, fighter, target, power, 0, 0, 0);
    }

    /** Begins an act that puts an effect on a fighter and answers the number of acts on the stack. */
    public int cast(int fighter, int target, int effect, int power, int turns, int how)
            throws IndexOutOfBoundsException, IllegalArgumentException, IllegalStateException {
        requireFighter(fighter);
        requireFighter(target);
        requireWithin(effect, POISON, STUN);
        requireWithin(power, 1, MOST_EFFECT_POWER);
        requireWithin(turns, 1, MOST_EFFECT_TURNS);
        requireWithin(how, 0, MOST_HOW);
        requirePossible(game.mayAct(fighter, EFFECT));
        history.save(game);
        return game.beginAct(EFFECT, fighter, target, power, effect, turns, how);
    }

    /** Settles the stack and answers how many acts happened. */
    public int settle() throws IllegalStateException {
        requirePossible(game.maySettle());
        history.save(game);
        return game.settleStack();
    }

    /** Answers something about an act on the stack. */
    public int stacked(int index, int what) throws IndexOutOfBoundsException, IllegalArgumentException {
        if (!within(index, 0, game.stackSize() - 1)) {
            throw new IndexOutOfBoundsException("no such act on the stack");
        }
        requireWithin(what, 0, LAST_ABOUT_ACT);
        return game.aboutAct(index, what);
    }

    /** Tells whether a fighter could answer now. */
    public boolean mayAnswer(int fighter) throws IndexOutOfBoundsException {
        requireFighter(fighter);
        return game.canAnswer(fighter);
    }

    // ---- what if

    /** Tells whose turn would be next, or the one behind it, and so on, if nobody acted or came in. */
    public int upcoming(int index) throws IllegalArgumentException {
        requireWithin(index, 0, LAST_UPCOMING);
        scratch.copyFrom(game);
        scratch.abandonTurn();
        int fighter = NONE;
        for (int turns = 0; turns <= index; turns++) {
            fighter = scratch.passTurn();
        }
        return fighter;
    }

    /** Tells after how many further turns an effect would be gone. */
    public int goneAfter(int effect) throws IndexOutOfBoundsException {
        requireEffect(effect);
        int birth = game.birthOf(effect);
        scratch.copyFrom(game);
        scratch.abandonTurn();
        for (int turns = 0; turns <= TURNS_LOOKED_AHEAD; turns++) {
            if (!scratch.hasEffectBorn(birth)) {
                return turns;
            }
            scratch.passTurn();
        }
        return NONE;
    }

    /** Tells how much life all fighters would have if the stack were settled now. */
    public int lifeSettled() {
        scratch.copyFrom(game);
        scratch.settleStack();
        return scratch.lives();
    }

    /** Answers the share of first lives that is left. */
    public double vigor() {
        double whole = (double) game.firstLives();
        return whole > 0.0 ? (double) game.lives() / whole : 0.0;
    }

    // ---- text

    /** Appends a byte to the script text and answers its new length. */
    public int append(int value) throws IllegalArgumentException, IllegalStateException {
        requireWithin(value, 0, MOST_BYTE);
        requirePossible(script.length() < MOST_BYTES);
        return script.lengthen(value);
    }

    /** Empties the script text and answers the length that it had. */
    public int clearText() {
        return script.wipe();
    }

    /** Carries out all commands of the text, or none of them, and answers their number or what is wrong. */
    public int carryOut() {
        int wrongByte = script.read();
        if (wrongByte != NONE) {
            return SYNTAX_ERROR - wrongByte;
        }
        scratch.copyFrom(game);
        for (int command = 0; command < script.commandCount(); command++) {
            if (!script.perform(command, scratch)) {
                return COMMAND_ERROR - command;
            }
        }
        history.save(game);
        game.copyFrom(scratch);
        return script.commandCount();
    }

    // ---- state

    /** Restores the state that was saved last and answers how many saved states remain. */
    public int undo() throws IllegalStateException {
        requirePossible(history.size() > 0);
        history.restore(game);
        return history.size();
    }

    /** Answers a hash of the state. */
    public long digest() {
        long hash = 31 * DIGEST_START + script.length();
        for (int what = 0; what <= LAST_ABOUT_GAME; what++) {
            hash = 31 * hash + game.number(what);
        }
        hash = withFighters(hash);
        hash = withEffects(hash);
        for (int place = 0; place < game.listLength(); place++) {
            hash = 31 * hash + game.listed(place);
        }
        hash = withStack(hash);
        return 31 * hash + history.size();
    }

    private long withFighters(long hash) {
        long longer = hash;
        for (int fighter = 0; fighter < game.fighterCount(); fighter++) {
            for (int what = 0; what <= LAST_ABOUT_FIGHTER; what++) {
                longer = 31 * longer + game.aboutFighter(fighter, what);
            }
        }
        return longer;
    }

    private long withEffects(long hash) {
        long longer = hash;
        for (int effect = 0; effect < game.effectCount(); effect++) {
            for (int what = 0; what <= LAST_ABOUT_EFFECT; what++) {
                longer = 31 * longer + game.aboutEffect(effect, what);
            }
        }
        return longer;
    }

    private long withStack(long hash) {
        long longer = hash;
        for (int index = 0; index < game.stackSize(); index++) {
            for (int what = 0; what <= LAST_ABOUT_ACT; what++) {
                longer = 31 * longer + game.aboutAct(index, what);
            }
        }
        return longer;
    }

    private void requireFighter(int fighter) {
        if (!game.isFighter(fighter)) {
            throw new IndexOutOfBoundsException("no such fighter");
        }
    }

    private void requireEffect(int effect) {
        if (!within(effect, 0, game.effectCount() - 1)) {
            throw new IndexOutOfBoundsException("no such effect");
        }
    }

    private static void requireWithin(int number, int least, int most) {
        if (!within(number, least, most)) {
            throw new IllegalArgumentException("an argument is out of range");
        }
    }

    private static void requirePossible(boolean possible) {
        if (!possible) {
            throw new IllegalStateException("not possible now");
        }
    }

    private static boolean within(int number, int least, int most) {
        return number >= least && number <= most;
    }

    /**
     * Rows of numbers, all made once with the table, since calls must not make new ones.
     * Every index of the game passes here and is looked at, so that no array can throw: what is not there
     * reads as NONE and takes no number.
     */
    private static final class Table {
        private final int columns;
        private final int[] cells;
        private int rows;

        Table(int mostRows, int columns) {
            this.columns = columns;
            this.cells = new int[Math.max(0, mostRows * columns)];
            this.rows = 0;
        }

        int count() {
            return rows;
        }

        boolean isFull() {
            return (rows + 1) * columns > cells.length;
        }

        int at(int row, int column) {
            if (row < 0 || row >= rows || column < 0 || column >= columns) {
                return NONE;
            }
            int cell = row * columns + column;
            return cell < cells.length ? cells[cell] : NONE;
        }

        void put(int row, int column, int number) {
            if (row < 0 || row >= rows || column < 0 || column >= columns) {
                return;
            }
            int cell = row * columns + column;
            if (cell < cells.length) {
                cells[cell] = number;
            }
        }

        /** Puts a new row of zeros at a place; those from there on move down. */
        void insert(int row) {
            int end = rows * columns;
            if (row < 0 || row > rows || end + columns > cells.length) {
                return;
            }
            int start = row * columns;
            System.arraycopy(cells, start, cells, start + columns, end - start);
            Arrays.fill(cells, start, start + columns, 0);
            rows++;
        }

        /** Takes a row out, if it is there; those behind it move up. */
        void remove(int row) {
            int end = rows * columns;
            if (row < 0 || row >= rows || end > cells.length) {
                return;
            }
            int behind = (row + 1) * columns;
            System.arraycopy(cells, behind, cells, behind - columns, end - behind);
            rows--;
        }

        void clear() {
            rows = 0;
        }

        void copyFrom(Table other) {
            rows = other.rows;
            System.arraycopy(other.cells, 0, cells, 0, Math.min(other.cells.length, cells.length));
        }
    }

    /** The effects, in the order in which they began. */
    private static final class Effects {
        private static final int KIND = 0;
        private static final int POWER = 1;
        private static final int SOURCE = 2;
        private static final int TARGET = 3;
        private static final int LEFT = 4;
        private static final int CLOCK = 5;
        private static final int HELD = 6;
        // An effect's number changes when others end; its birth does not, so it is known again by that.
        private static final int BIRTH = 7;
        private static final int COLUMNS = 8;

        private final Table rows;
        private int born;

        Effects() {
            rows = new Table(MOST_EFFECTS, COLUMNS);
            born = 0;
        }

        int count() {
            return rows.count();
        }

        int ended() {
            return born - rows.count();
        }

        /** The face numbers what it tells about an effect as the columns here. */
        int about(int effect, int what) {
            return rows.at(effect, what);
        }

        int birthOf(int effect) {
            return rows.at(effect, BIRTH);
        }

        boolean isThere(int birth) {
            for (int i = 0; i < rows.count(); i++) {
                if (rows.at(i, BIRTH) == birth) {
                    return true;
                }
            }
            return false;
        }

        int heldBy(int fighter) {
            for (int i = 0; i < rows.count(); i++) {
                if (rows.at(i, HELD) == 1 && rows.at(i, SOURCE) == fighter) {
                    return i;
                }
            }
            return NONE;
        }

        int countOn(int fighter) {
            int on = 0;
            for (int i = 0; i < rows.count(); i++) {
                if (rows.at(i, TARGET) == fighter) {
                    on++;
                }
            }
            return on;
        }

        /** The sum of the powers of all effects of a kind on a fighter: 0 if there is none, since each has one. */
        int powerOn(int fighter, int kind) {
            int sum = 0;
            for (int i = 0; i < rows.count(); i++) {
                if (rows.at(i, TARGET) == fighter && rows.at(i, KIND) == kind) {
                    sum += rows.at(i, POWER);
                }
            }
            return sum;
        }

        /** The first poison on a fighter that was born after another effect. */
        int poisonBornAfter(int fighter, int birth) {
            for (int i = 0; i < rows.count(); i++) {
                boolean later = rows.at(i, BIRTH) > birth;
                if (later && rows.at(i, TARGET) == fighter && rows.at(i, KIND) == POISON) {
                    return i;
                }
            }
            return NONE;
        }

        void begin(int kind, int power, int source, int target, int turns, int how) {
            int held = how % 2;
            if (held == 1) {
                endHeldBy(source);
            }
            if (rows.isFull()) {
                return;
            }
            int row = rows.count();
            rows.insert(row);
            rows.put(row, KIND, kind);
            rows.put(row, POWER, power);
            rows.put(row, SOURCE, source);
            rows.put(row, TARGET, target);
            rows.put(row, LEFT, turns);
            rows.put(row, CLOCK, how / 2);
            rows.put(row, HELD, held);
            rows.put(row, BIRTH, born);
            born++;
        }

        void endHeldBy(int fighter) {
            rows.remove(heldBy(fighter));
        }

        /** Runs from the last one, since an end moves those behind it; the order shows in no answer. */
        void endOfFallen(int fighter) {
            for (int i = rows.count() - 1; i >= 0; i--) {
                boolean bound = rows.at(i, HELD) == 1 || rows.at(i, CLOCK) == 0;
                if (rows.at(i, TARGET) == fighter || (bound && rows.at(i, SOURCE) == fighter)) {
                    rows.remove(i);
                }
            }
        }

        /** Runs from the last one, as above. */
        int countDown(int fighter) {
            int before = rows.count();
            for (int i = before - 1; i >= 0; i--) {
                int clockColumn = rows.at(i, CLOCK) == 0 ? SOURCE : TARGET;
                if (rows.at(i, clockColumn) == fighter) {
                    int left = rows.at(i, LEFT) - 1;
                    rows.put(i, LEFT, left);
                    if (left <= 0) {
                        rows.remove(i);
                    }
                }
            }
            return before - rows.count();
        }

        void copyFrom(Effects other) {
            rows.copyFrom(other.rows);
            born = other.born;
        }
    }

    /** All that undo brings back, and the rules by which it changes; what is asked here is possible already. */
    private static final class Game {
        private static final int FIRST_SHOCK = 10;

        private static final int SPEED = 0;
        private static final int FIRST_LIFE = 1;
        private static final int LIFE = 2;
        private static final int READY = 3;
        private static final int FIGHTER_COLUMNS = 4;

        private static final int LISTED = 0;
        private static final int STATE = 1;
        private static final int LIST_COLUMNS = 2;
        private static final int WAITING = 0;
        private static final int HAD_TURN = 1;
        private static final int DELAYED = 2;

        private static final int KIND = 0;
        private static final int ACTOR = 1;
        private static final int TARGET = 2;
        private static final int POWER = 3;
        private static final int CAST = 4;
        private static final int TURNS = 5;
        private static final int HOW = 6;
        private static final int ACT_COLUMNS = 7;

        private final Table fighters;
        private final Effects effects;
        private final Table list;
        private final Table stack;
        private int round;
        private int turn;
        private int latest;
        private boolean delayable;
        private int shock;
        private int turnsBegun;

        Game() {
            fighters = new Table(MOST_FIGHTERS, FIGHTER_COLUMNS);
            effects = new Effects();
            list = new Table(MOST_FIGHTERS, LIST_COLUMNS);
            stack = new Table(MOST_ACTS, ACT_COLUMNS);
            round = 0;
            turn = NONE;
            latest = NONE;
            delayable = false;
            shock = FIRST_SHOCK;
            turnsBegun = 0;
        }

        void copyFrom(Game other) {
            fighters.copyFrom(other.fighters);
            effects.copyFrom(other.effects);
            list.copyFrom(other.list);
            stack.copyFrom(other.stack);
            round = other.round;
            turn = other.turn;
            latest = other.latest;
            delayable = other.delayable;
            shock = other.shock;
            turnsBegun = other.turnsBegun;
        }

        // -- what is read

        int fighterCount() {
            return fighters.count();
        }

        boolean isFighter(int fighter) {
            return fighter >= 0 && fighter < fighters.count();
        }

        int aboutFighter(int fighter, int what) {
            switch (what) {
                case 0:
                    return fighters.at(fighter, SPEED);
                case 1:
                    return fighters.at(fighter, FIRST_LIFE);
                case 2:
                    return fighters.at(fighter, LIFE);
                case 3:
                    return presentSpeed(fighter);
                case 4:
                    return fighters.at(fighter, READY);
                case 5:
                    return stateOf(fighter);
                case 6:
                    return placeOf(fighter);
                case 7:
                    return effects.heldBy(fighter);
                default:
                    return effects.countOn(fighter);
            }
        }

        int effectCount() {
            return effects.count();
        }

        int aboutEffect(int effect, int what) {
            return effects.about(effect, what);
        }

        int birthOf(int effect) {
            return effects.birthOf(effect);
        }

        boolean hasEffectBorn(int birth) {
            return effects.isThere(birth);
        }

        int number(int what) {
            switch (what) {
                case 0:
                    return fighters.count();
                case 1:
                    return standing();
                case 2:
                    return effects.count();
                case 3:
                    return round;
                case 4:
                    return turn;
                case 5:
                    return stack.count();
                case 6:
                    return shock;
                case 7:
                    return turnsBegun;
                default:
                    return effects.ended();
            }
        }

        int listLength() {
            return list.count();
        }

        int listed(int place) {
            return list.at(place, LISTED);
        }

        int stackSize() {
            return stack.count();
        }

        /** The face numbers what it tells about an act as the columns here, but the acts from the top. */
        int aboutAct(int index, int what) {
            return stack.at(stack.count() - 1 - index, what);
        }

        int presentTurn() {
            return turn;
        }

        int lives() {
            return total(LIFE);
        }

        int firstLives() {
            return total(FIRST_LIFE);
        }

        private int total(int column) {
            int sum = 0;
            for (int i = 0; i < fighters.count(); i++) {
                sum += fighters.at(i, column);
            }
            return sum;
        }

        private boolean stands(int fighter) {
            return fighters.at(fighter, LIFE) > 0;
        }

        private int standing() {
            int standing = 0;
            for (int i = 0; i < fighters.count(); i++) {
                if (stands(i)) {
                    standing++;
                }
            }
            return standing;
        }

        private int presentSpeed(int fighter) {
            int faster = effects.powerOn(fighter, HASTE);
            int slower = effects.powerOn(fighter, SLOW);
            return Math.max(1, fighters.at(fighter, SPEED) + faster - slower);
        }

        private int placeOf(int fighter) {
            for (int i = 0; i < list.count(); i++) {
                if (list.at(i, LISTED) == fighter) {
                    return i;
                }
            }
            return NONE;
        }

        private int stateOf(int fighter) {
            return list.at(placeOf(fighter), STATE);
        }

        // -- fighters

        int join(int speed, int life) {
            int number = fighters.count();
            fighters.insert(number);
            fighters.put(number, SPEED, speed);
            fighters.put(number, FIRST_LIFE, life);
            fighters.put(number, LIFE, life);
            fighters.put(number, READY, 1);
            return number;
        }

        int changeSpeed(int fighter, int speed) {
            int previous = fighters.at(fighter, SPEED);
            fighters.put(fighter, SPEED, speed);
            return previous;
        }

        int changeShock(int newShock) {
            int previous = shock;
            shock = newShock;
            return previous;
        }

        // -- turns

        boolean mayBeginTurn() {
            return turn == NONE;
        }

        int beginTurn() {
            int fighter = firstWaiting();
            if (fighter == NONE) {
                beginRound();
                fighter = firstWaiting();
            }
            if (fighter == NONE) {
                return NONE;
            }
            takeTurn(fighter);
            delayable = true;
            turnsBegun++;
            fighters.put(fighter, READY, 1);
            sufferPoison(fighter);
            if (!stands(fighter)) {
                turn = NONE;
            } else if (effects.powerOn(fighter, STUN) > 0) {
                endTurn();
            }
            return fighter;
        }

        private int firstWaiting() {
            for (int i = 0; i < list.count(); i++) {
                int fighter = list.at(i, LISTED);
                if (list.at(i, STATE) == WAITING && stands(fighter)) {
                    return fighter;
                }
            }
            return NONE;
        }

        private void beginRound() {
            round++;
            list.clear();
            for (int i = 0; i < fighters.count(); i++) {
                if (stands(i)) {
                    enlist(i);
                }
            }
        }

        /** Fighters come here by their numbers, so an equally fast one that is listed already stays ahead. */
        private void enlist(int fighter) {
            int speed = presentSpeed(fighter);
            int place = list.count();
            for (int i = list.count() - 1; i >= 0 && presentSpeed(list.at(i, LISTED)) < speed; i--) {
                place = i;
            }
            list.insert(place);
            list.put(place, LISTED, fighter);
            list.put(place, STATE, WAITING);
        }

        private void takeTurn(int fighter) {
            turn = fighter;
            latest = fighter;
            list.put(placeOf(fighter), STATE, HAD_TURN);
        }

        /** Goes by births, since a harm can break the fighter's hold on a poison and so move the others. */
        private void sufferPoison(int fighter) {
            int birth = NONE;
            for (int i = 0; i < MOST_EFFECTS; i++) {
                int poison = effects.poisonBornAfter(fighter, birth);
                if (poison == NONE) {
                    return;
                }
                birth = effects.birthOf(poison);
                harm(fighter, effects.about(poison, Effects.POWER));
            }
        }

        private void harm(int fighter, int amount) {
            int life = fighters.at(fighter, LIFE);
            int loss = Math.min(amount, life);
            fighters.put(fighter, LIFE, life - loss);
            if (loss >= life) {
                effects.endOfFallen(fighter);
            } else if (loss >= shock) {
                effects.endHeldBy(fighter);
            }
        }

        boolean mayEndTurn() {
            return turn != NONE && stack.count() == 0;
        }

        int endTurn() {
            int ended = effects.countDown(turn);
            turn = NONE;
            return ended;
        }

        boolean mayDelayTurn() {
            return turn != NONE && delayable;
        }

        int delayTurn() {
            int fighter = turn;
            list.put(placeOf(fighter), STATE, DELAYED);
            turn = NONE;
            return fighter;
        }

        boolean mayResumeTurn(int fighter) {
            return turn == NONE && stateOf(fighter) == DELAYED && stands(fighter);
        }

        int resumeTurn(int fighter) {
            if (fighter != latest) {
                list.remove(placeOf(fighter));
                int place = placeOf(latest) + 1;
                list.insert(place);
                list.put(place, LISTED, fighter);
            }
            takeTurn(fighter);
            delayable = false;
            return placeOf(fighter);
        }

        // -- acts

        boolean canAnswer(int fighter) {
            boolean room = stack.count() > 0 && !stack.isFull();
            boolean ready = stands(fighter) && fighters.at(fighter, READY) == 1;
            return room && ready && aboutAct(0, ACTOR) != fighter;
        }

        boolean mayAct(int fighter, int kind) {
            if (stack.count() > 0) {
                return canAnswer(fighter);
            }
            return turn != NONE && fighter == turn && kind != COUNTER;
        }

        int beginAct(int kind, int actor, int target, int power, int cast, int turns, int how) {
            if (stack.count() > 0) {
                fighters.put(actor, READY, 0);
            }
            delayable = false;
            int top = stack.count();
            stack.insert(top);
            stack.put(top, KIND, kind);
            stack.put(top, ACTOR, actor);
            stack.put(top, TARGET, target);
            stack.put(top, POWER, power);
            stack.put(top, CAST, cast);
            stack.put(top, TURNS, turns);
            stack.put(top, HOW, how);
            return stack.count();
        }

        boolean maySettle() {
            return stack.count() > 0;
        }

        int settleStack() {
            int happened = 0;
            for (int i = 0; i < MOST_ACTS && stack.count() > 0; i++) {
                if (settleTop()) {
                    happened++;
                }
            }
            if (turn != NONE && !stands(turn)) {
                turn = NONE;
            }
            return happened;
        }

        /** Takes the topmost act off and answers whether it happened. */
        private boolean settleTop() {
            int kind = aboutAct(0, KIND);
            int actor = aboutAct(0, ACTOR);
            int target = aboutAct(0, TARGET);
            int power = aboutAct(0, POWER);
            int cast = aboutAct(0, CAST);
            int turns = aboutAct(0, TURNS);
            int how = aboutAct(0, HOW);
            dropTop();
            if (!stands(actor) || (kind != COUNTER && !stands(target))) {
                return false;
            }
            switch (kind) {
                case STRIKE:
                    harm(target, Math.max(0, power - effects.powerOn(target, SHIELD)));
                    break;
                case HEAL:
                    heal(target, power);
                    break;
                case EFFECT:
                    effects.begin(cast, power, actor, target, turns, how);
                    break;
                default:
                    dropTop();
                    break;
            }
            return true;
        }

        private void dropTop() {
            stack.remove(stack.count() - 1);
        }

        private void heal(int fighter, int amount) {
            int healed = fighters.at(fighter, LIFE) + amount;
            fighters.put(fighter, LIFE, Math.min(healed, fighters.at(fighter, FIRST_LIFE)));
        }

        // -- what if

        /** Clears the stack and ends the turn that goes on, if one does. */
        void abandonTurn() {
            stack.clear();
            if (turn != NONE) {
                endTurn();
            }
        }

        /** Lets the next turn begin and end, and answers whose it was. */
        int passTurn() {
            int fighter = beginTurn();
            if (turn != NONE) {
                endTurn();
            }
            return fighter;
        }
    }

    /** The saved states, the oldest one first. */
    private static final class History {
        private final Game[] saved;
        private int count;

        History() {
            saved = new Game[MOST_SAVED];
            for (int i = 0; i < saved.length; i++) {
                saved[i] = new Game();
            }
            count = 0;
        }

        int size() {
            return count;
        }

        void save(Game game) {
            if (count >= saved.length) {
                dropOldest();
            }
            Game slot = slotAt(count);
            if (slot != null) {
                slot.copyFrom(game);
                count++;
            }
        }

        void restore(Game game) {
            Game slot = slotAt(count - 1);
            if (slot != null) {
                game.copyFrom(slot);
                count--;
            }
        }

        /** The oldest one's object goes to the back, to be used again. */
        private void dropOldest() {
            Game oldest = slotAt(0);
            for (int i = 1; i < saved.length; i++) {
                saved[i - 1] = saved[i];
            }
            if (saved.length > 0) {
                saved[saved.length - 1] = oldest;
            }
            count--;
        }

        private Game slotAt(int index) {
            return index >= 0 && index < saved.length ? saved[index] : null;
        }
    }

    /** The script text, and the commands that were read from it. */
    private static final class Script {
        // A command has two bytes at least.
        private static final int MOST_COMMANDS = MOST_BYTES / 2;
        private static final int LETTER = 0;
        private static final int FIGHTER = 1;
        private static final int POWER = 2;
        private static final int COLUMNS = 3;

        // What can stand at the next byte.
        private static final int WANT_LETTER = 0;
        private static final int WANT_COMER = 1;
        private static final int WANT_TARGET = 2;
        private static final int WANT_COMMA = 3;
        private static final int WANT_POWER = 4;
        private static final int WANT_POWER_OR_END = 5;
        private static final int WANT_END = 6;

        private final Table text;
        private final Table commands;

        Script() {
            text = new Table(MOST_BYTES, 1);
            commands = new Table(MOST_COMMANDS, COLUMNS);
        }

        int length() {
            return text.count();
        }

        int lengthen(int value) {
            int index = text.count();
            text.insert(index);
            text.put(index, 0, value);
            return text.count();
        }

        int wipe() {
            int length = text.count();
            text.clear();
            return length;
        }

        int commandCount() {
            return commands.count();
        }

        /** Reads the commands and answers the syntax error position, NONE if there is no error. */
        int read() {
            commands.clear();
            int want = WANT_LETTER;
            for (int i = 0; i < text.count(); i++) {
                int sign = text.at(i, 0);
                int wantNext = wantBehind(want, sign);
                if (wantNext == NONE) {
                    return i;
                }
                note(want, sign);
                want = wantNext;
            }
            return want == WANT_LETTER ? NONE : text.count();
        }

        /** NONE if the sign cannot stand where something is wanted. */
        private static int wantBehind(int want, int sign) {
            switch (want) {
                case WANT_LETTER:
                    return wantBehindLetter(sign);
                case WANT_COMER:
                    return isDigit(sign) ? WANT_END : NONE;
                case WANT_TARGET:
                    return isDigit(sign) ? WANT_COMMA : NONE;
                case WANT_COMMA:
                    return sign == ',' ? WANT_POWER : NONE;
                case WANT_POWER:
                    return isDigit(sign) ? WANT_POWER_OR_END : NONE;
                case WANT_POWER_OR_END:
                    return isDigit(sign) ? WANT_END : wantBehindEnd(sign);
                default:
                    return wantBehindEnd(sign);
            }
        }

        private static int wantBehindLetter(int sign) {
            switch (sign) {
                case 'n':
                case 'e':
                case 'd':
                case 'r':
                    return WANT_END;
                case 'c':
                    return WANT_COMER;
                case 's':
                case 'h':
                    return WANT_TARGET;
                default:
                    return NONE;
            }
        }

        private static int wantBehindEnd(int sign) {
            return sign == ';' ? WANT_LETTER : NONE;
        }

        private static boolean isDigit(int sign) {
            return sign >= '0' && sign <= '9';
        }

        /** Keeps what a sign says, in the command that is being read. */
        private void note(int want, int sign) {
            if (want == WANT_LETTER) {
                commands.insert(commands.count());
            }
            int command = commands.count() - 1;
            if (want == WANT_LETTER) {
                commands.put(command, LETTER, sign);
            } else if (want == WANT_COMER || want == WANT_TARGET) {
                commands.put(command, FIGHTER, sign - '0');
            } else if (isDigit(sign)) {
                commands.put(command, POWER, 10 * commands.at(command, POWER) + sign - '0');
            }
        }

        /** Carries out a command, if it is possible, and answers whether it was. */
        boolean perform(int command, Game game) {
            int letter = commands.at(command, LETTER);
            int fighter = commands.at(command, FIGHTER);
            int power = commands.at(command, POWER);
            if (!isPossible(letter, fighter, power, game)) {
                return false;
            }
            switch (letter) {
                case 'n':
                    game.beginTurn();
                    break;
                case 'e':
                    game.endTurn();
                    break;
                case 'd':
                    game.delayTurn();
                    break;
                case 'c':
                    game.resumeTurn(fighter);
                    break;
                case 'r':
                    game.settleStack();
                    break;
                default:
                    game.beginAct(kindOf(letter), game.presentTurn(), fighter, power, 0, 0, 0);
                    break;
            }
            return true;
        }

        private static boolean isPossible(int letter, int fighter, int power, Game game) {
            switch (letter) {
                case 'n':
                    return game.mayBeginTurn();
                case 'e':
                    return game.mayEndTurn();
                case 'd':
                    return game.mayDelayTurn();
                case 'c':
                    return game.isFighter(fighter) && game.mayResumeTurn(fighter);
                case 'r':
                    return game.maySettle();
                default:
                    return game.isFighter(fighter) && within(power, 1, MOST_ACT_POWER)
                            && game.mayAct(game.presentTurn(), kindOf(letter));
            }
        }

        private static int kindOf(int letter) {
            return letter == 'h' ? HEAL : STRIKE;
        }
    }
}
