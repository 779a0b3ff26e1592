/**
 * A colour eye over apples on a belt of cups: rules tell the lanes of the apples, and the lanes
 * drop them into boxes. What each call does is told by the document, as numbered promises.
 */
public final class CupEye {
    public static final int INVALID_ARGUMENT = -1;
    public static final int NOT_POSSIBLE = -2;
    public static final int LIMIT_REACHED = -3;
    public static final int NOT_FOUND = -4;
    public static final int BIAS = 0, GLOW = 1, FILL = 2;

    private static final int LEAST_WEIGHT = 50, MOST_WEIGHT = 300, MOST_RED = 100, MOST_BRUISE = 9;
    private static final int CUPS = 12, CUP_ROOM = 2;
    private static final int LANES = 4, REST = 4, UNGRADED = -1;
    private static final int MOST_RULES = 8;
    private static final int MOST_TICKS = 30, MOST_ENOUGH = 20;
    private static final int SETTINGS = 3, BIAS_SHOWN_ABOVE = 20;
    private static final int[] LEAST_SETTING = {-20, 0, 1};
    private static final int[] MOST_SETTING = {20, 9, 20};
    private static final int PAD_ROOM = 60, HISTORY_ROOM = 4;

    /** As many as FILL can ever be. */
    private static final int BOX_ROOM = 20;
    /** In the 512 calls of an object no more are laid: a run lays fewer than its pad has characters. */
    private static final int REST_ROOM = 512;

    private final State now = new State();
    private final State snapshot = new State();
    private final State trial = new State();
    private final History history = new History();
    private final Pad pad = new Pad();
    private boolean saved = false;

    public CupEye() {
    }

    // ---- the belt

    public int lay(int weight, int red, int bruise) {
        if (!Traits.inRange(weight, red, bruise)) {
            return INVALID_ARGUMENT;
        }
        if (now.belt.sizes[0] >= CUP_ROOM) {
            return LIMIT_REACHED;
        }
        history.keep(now);
        now.layApple(Traits.of(weight, red, bruise));
        return now.belt.sizes[0];
    }

    public int pass(int ticks) {
        if (ticks < 1 || ticks > MOST_TICKS) {
            return INVALID_ARGUMENT;
        }
        history.keep(now);
        int fallen = 0;
        for (int i = 0; i < ticks; i++) {
            fallen += now.tick();
        }
        return fallen;
    }

    // ---- rules, lanes, settings

    public int rule(int place, int weight, int red, int bruise, int lane) {
        if (place < 0 || place > now.book.size || !Traits.inRange(weight, red, bruise) || !isLane(lane)) {
            return INVALID_ARGUMENT;
        }
        if (now.book.size >= MOST_RULES) {
            return LIMIT_REACHED;
        }
        history.keep(now);
        now.book.insert(place, Traits.of(weight, red, bruise), lane);
        return now.book.size;
    }

    public int drop(int rule) {
        if (!now.book.has(rule)) {
            return INVALID_ARGUMENT;
        }
        history.keep(now);
        now.book.takeOut(rule);
        return now.book.size;
    }

    public int water(int lane) {
        if (!isLane(lane)) {
            return INVALID_ARGUMENT;
        }
        history.keep(now);
        now.watered[lane] = !now.watered[lane];
        return now.watered[lane] ? 1 : 0;
    }

    public int empty(int lane) {
        if (!isBox(lane)) {
            return INVALID_ARGUMENT;
        }
        history.keep(now);
        return now.emptyBox(lane);
    }

    public int set(int what, int value) {
        if (what < 0 || what >= SETTINGS || value < LEAST_SETTING[what] || value > MOST_SETTING[what]) {
            return INVALID_ARGUMENT;
        }
        history.keep(now);
        int before = now.settingShown(what);
        now.settings[what] = value;
        return before;
    }

    // ---- texts

    public int append(int code) {
        if (code < 33 || code > 126) {
            return INVALID_ARGUMENT;
        }
        if (pad.length >= PAD_ROOM) {
            return LIMIT_REACHED;
        }
        pad.write(code);
        return pad.length;
    }

    public int clear() {
        int before = pad.length;
        pad.length = 0;
        return before;
    }

    public int fault(int way) {
        if (way != 0 && way != 1) {
            return INVALID_ARGUMENT;
        }
        boolean whole = way == 0 ? pad.readApples() : pad.readRules();
        // Reading stops at the first wrong character, or at the end of a pad that is not complete.
        return whole ? NOT_FOUND : pad.position;
    }

    public int rules() {
        if (!pad.readRules()) {
            return NOT_POSSIBLE;
        }
        if (pad.parts > MOST_RULES) {
            return LIMIT_REACHED;
        }
        history.keep(now);
        now.book.size = 0;
        for (int i = 0; i < pad.parts; i++) {
            now.book.insert(i, pad.partTraits[i], pad.partKinds[i]);
        }
        pad.length = 0;
        return now.book.size;
    }

    public int run() {
        if (!pad.readApples()) {
            return NOT_POSSIBLE;
        }
        if (now.belt.sizes[0] > 0) {
            return LIMIT_REACHED;
        }
        history.keep(now);
        int fallen = 0;
        for (int i = 0; i < pad.parts; i++) {
            if (pad.partKinds[i] != Pad.NO_APPLE) {
                now.layApple(pad.partTraits[i]);
            }
            boolean another = i + 1 < pad.parts && pad.partKinds[i + 1] == Pad.SECOND_APPLE;
            if (!another) {
                fallen += now.tick();
            }
        }
        pad.length = 0;
        return fallen;
    }

    // ---- looks; nothing is changed

    public int cup(int place, int what) {
        if (place < 0 || place >= CUPS || what < 0 || what > 3) {
            return INVALID_ARGUMENT;
        }
        switch (what) {
            case 0:
                return now.belt.sizes[place];
            case 1:
                return now.belt.grades[place] == UNGRADED ? NOT_FOUND : now.belt.grades[place];
            case 2:
                return now.belt.weightIn(place);
            default:
                return now.ticksToFall(place);
        }
    }

    public int apple(int lane, int apple, int what) {
        if (!isBox(lane) || apple < 0 || what < 0 || what > 3) {
            return INVALID_ARGUMENT;
        }
        if (apple >= now.boxes.sizes[lane]) {
            return NOT_FOUND;
        }
        int traits = now.boxes.appleAt(lane, apple);
        switch (what) {
            case 0:
                return Traits.weight(traits);
            case 1:
                return Traits.red(traits);
            case 2:
                return Traits.bruise(traits);
            default:
                return now.isWrong(lane, traits) ? 1 : 0;
        }
    }

    public int box(int lane, int what) {
        if (!isBox(lane) || what < 0 || what > 5) {
            return INVALID_ARGUMENT;
        }
        switch (what) {
            case 0:
                return now.boxes.sizes[lane];
            case 1:
                return now.boxes.weightIn(lane);
            case 2:
                return now.wrongIn(lane);
            case 3:
                return now.boxes.leastRed(lane);
            case 4:
                return now.boxes.greatestBruise(lane);
            default:
                return lane == REST || now.watered[lane] ? 1 : 0;
        }
    }

    public int ruleOf(int rule, int what) {
        if (!now.book.has(rule) || what < 0 || what > 4) {
            return INVALID_ARGUMENT;
        }
        int bounds = now.book.bounds[rule];
        switch (what) {
            case 0:
                return Traits.weight(bounds);
            case 1:
                return Traits.red(bounds);
            case 2:
                return Traits.bruise(bounds);
            case 3:
                return now.book.lanes[rule];
            default:
                return now.book.isHidden(rule) ? 1 : 0;
        }
    }

    public int lane(int weight, int red, int bruise, int way) {
        if (!Traits.inRange(weight, red, bruise) || (way != 0 && way != 1)) {
            return INVALID_ARGUMENT;
        }
        int seen = now.seen(Traits.of(weight, red, bruise));
        return way == 0 ? now.book.laneFromFirst(seen) : now.book.laneFromLast(seen);
    }

    public int misses(int rule, int weight, int red, int bruise) {
        if (!now.book.has(rule) || !Traits.inRange(weight, red, bruise)) {
            return INVALID_ARGUMENT;
        }
        return Traits.shortOf(now.book.bounds[rule], now.seen(Traits.of(weight, red, bruise)));
    }

    public int count(int what) {
        switch (what) {
            case 0:
                return now.book.size;
            case 1:
                return now.ticks;
            case 2:
                return now.belt.apples();
            case 3:
                return now.belt.doubles();
            case 4:
                return now.boxes.applesBelow(LANES + 1);
            case 5:
                return now.wrongInAll();
            case 6:
                return now.laid;
            case 7:
                return now.ranOver;
            case 8:
                return now.doublesGraded;
            case 9:
                return now.bruisedByDrops;
            case 10:
                return now.takenOut;
            case 11:
                return now.settingShown(BIAS);
            case 12:
                return now.settingShown(GLOW);
            case 13:
                return now.settingShown(FILL);
            case 14:
                return pad.length;
            case 15:
                return history.size;
            default:
                return INVALID_ARGUMENT;
        }
    }

    public double right() {
        int all = now.boxes.applesBelow(LANES);
        if (all <= 0) {
            return 1.0;
        }
        return (double) (all - now.wrongInAll()) / (double) all;
    }

    // ---- what would be; nothing is changed

    public int ifPassed(int ticks, int what) {
        if (ticks < 1 || ticks > MOST_TICKS || what < 0 || what > 3) {
            return INVALID_ARGUMENT;
        }
        trial.copyFrom(now);
        int fallen = 0;
        int firstOver = NOT_FOUND;
        for (int i = 1; i <= ticks; i++) {
            fallen += trial.tick();
            if (firstOver == NOT_FOUND && trial.ranOver != now.ranOver) {
                firstOver = i;
            }
        }
        switch (what) {
            case 0:
                return fallen;
            case 1:
                return trial.ranOver - now.ranOver;
            case 2:
                return trial.wrongInAll();
            default:
                return firstOver;
        }
    }

    public int tightest(int rule, int enough) {
        if (!now.book.has(rule) || enough < 1 || enough > MOST_ENOUGH) {
            return INVALID_ARGUMENT;
        }
        trial.copyFrom(now);
        int bounds = now.book.bounds[rule];
        for (int red = MOST_RED; red >= 0; red--) {
            trial.book.bounds[rule] = Traits.of(Traits.weight(bounds), red, Traits.bruise(bounds));
            if (trial.singlesForLane(trial.book.lanes[rule]) >= enough) {
                return red;
            }
        }
        return NOT_FOUND;
    }

    // ---- history, snapshot

    public int undo() {
        if (history.size <= 0) {
            return NOT_POSSIBLE;
        }
        history.giveBack(now);
        return history.size;
    }

    public int save() {
        snapshot.copyFrom(now);
        saved = true;
        return now.belt.apples();
    }

    public int restore() {
        if (!saved) {
            return NOT_POSSIBLE;
        }
        history.keep(now);
        now.copyFrom(snapshot);
        return now.belt.apples();
    }

    // ----

    private static boolean isLane(int lane) {
        return lane >= 0 && lane < LANES;
    }

    private static boolean isBox(int lane) {
        return lane >= 0 && lane <= REST;
    }

    /**
     * A weight, a red and a bruise in one number: those of an apple, or the bounds of a rule.
     * So rows of them are rows of numbers: cheap to copy, and without references.
     */
    private static final class Traits {
        private static final int REDS = MOST_RED + 1, BRUISES = MOST_BRUISE + 1;

        static boolean inRange(int weight, int red, int bruise) {
            return weight >= LEAST_WEIGHT && weight <= MOST_WEIGHT
                && red >= 0 && red <= MOST_RED
                && bruise >= 0 && bruise <= MOST_BRUISE;
        }

        static int of(int weight, int red, int bruise) {
            return (weight * REDS + red) * BRUISES + bruise;
        }

        static int weight(int traits) {
            return traits / (REDS * BRUISES);
        }

        static int red(int traits) {
            return traits / BRUISES % REDS;
        }

        static int bruise(int traits) {
            return traits % BRUISES;
        }

        /** Why the traits of an apple do not meet the bounds, as a sum of 1, 2 and 4; 0 if they do. */
        static int shortOf(int bounds, int traits) {
            int sum = 0;
            if (weight(traits) < weight(bounds)) {
                sum += 1;
            }
            if (red(traits) < red(bounds)) {
                sum += 2;
            }
            if (bruise(traits) > bruise(bounds)) {
                sum += 4;
            }
            return sum;
        }
    }

    /** The rules in their order. */
    private static final class Book {
        final int[] bounds = new int[MOST_RULES];
        final int[] lanes = new int[MOST_RULES];
        int size = 0;

        boolean has(int rule) {
            return rule >= 0 && rule < size;
        }

        void insert(int place, int newBounds, int newLane) {
            if (place < 0 || place > size || size >= MOST_RULES) {
                return;
            }
            for (int i = size; i > place; i--) {
                bounds[i] = bounds[i - 1];
                lanes[i] = lanes[i - 1];
            }
            bounds[place] = newBounds;
            lanes[place] = newLane;
            size++;
        }

        void takeOut(int rule) {
            if (!has(rule)) {
                return;
            }
            for (int i = rule; i + 1 < size; i++) {
                bounds[i] = bounds[i + 1];
                lanes[i] = lanes[i + 1];
            }
            size--;
        }

        int laneFromFirst(int seen) {
            for (int i = 0; i < size; i++) {
                if (Traits.shortOf(bounds[i], seen) == 0) {
                    return lanes[i];
                }
            }
            return REST;
        }

        int laneFromLast(int seen) {
            int told = REST;
            for (int i = size - 1; i >= 0; i--) {
                if (Traits.shortOf(bounds[i], seen) == 0) {
                    told = lanes[i];
                }
            }
            return told;
        }

        /** Bounds that meet an earlier rule's bounds ask for at least as much in everything. */
        boolean isHidden(int rule) {
            if (!has(rule)) {
                return false;
            }
            for (int i = 0; i < rule; i++) {
                if (Traits.shortOf(bounds[i], bounds[rule]) == 0) {
                    return true;
                }
            }
            return false;
        }

        void copyFrom(Book other) {
            System.arraycopy(other.bounds, 0, bounds, 0, MOST_RULES);
            System.arraycopy(other.lanes, 0, lanes, 0, MOST_RULES);
            size = other.size;
        }
    }

    /** The cups by their places; those of the place p are the apples from CUP_ROOM * p on. */
    private static final class Belt {
        final int[] sizes = new int[CUPS];
        final int[] grades = new int[CUPS];
        final int[] apples = new int[CUPS * CUP_ROOM];

        Belt() {
            for (int i = 0; i < CUPS; i++) {
                grades[i] = UNGRADED;
            }
        }

        int firstIn(int place) {
            return apples[CUP_ROOM * place];
        }

        int weightIn(int place) {
            int sum = 0;
            for (int i = 0; i < sizes[place]; i++) {
                sum += Traits.weight(apples[CUP_ROOM * place + i]);
            }
            return sum;
        }

        void layBelowEye(int traits) {
            if (sizes[0] < CUP_ROOM) {
                apples[sizes[0]] = traits;
                sizes[0]++;
            }
        }

        void clearCup(int place) {
            sizes[place] = 0;
            grades[place] = UNGRADED;
        }

        void move() {
            for (int i = CUPS - 1; i > 0; i--) {
                sizes[i] = sizes[i - 1];
                grades[i] = grades[i - 1];
            }
            for (int i = CUPS * CUP_ROOM - 1; i >= CUP_ROOM; i--) {
                apples[i] = apples[i - CUP_ROOM];
            }
            clearCup(0);
        }

        int apples() {
            int sum = 0;
            for (int i = 0; i < CUPS; i++) {
                sum += sizes[i];
            }
            return sum;
        }

        int doubles() {
            int sum = 0;
            for (int i = 0; i < CUPS; i++) {
                if (sizes[i] == CUP_ROOM) {
                    sum++;
                }
            }
            return sum;
        }

        void copyFrom(Belt other) {
            System.arraycopy(other.sizes, 0, sizes, 0, CUPS);
            System.arraycopy(other.grades, 0, grades, 0, CUPS);
            System.arraycopy(other.apples, 0, apples, 0, CUPS * CUP_ROOM);
        }
    }

    /** The boxes in one row: BOX_ROOM for each lane, then REST_ROOM for the rest. */
    private static final class Boxes {
        private static final int REST_START = LANES * BOX_ROOM;
        final int[] sizes = new int[LANES + 1];
        final int[] apples = new int[REST_START + REST_ROOM];

        int appleAt(int lane, int index) {
            return apples[lane * BOX_ROOM + index];
        }

        void put(int lane, int traits) {
            int room = lane == REST ? REST_ROOM : BOX_ROOM;
            if (sizes[lane] < room) {
                apples[lane * BOX_ROOM + sizes[lane]] = traits;
                sizes[lane]++;
            }
        }

        int applesBelow(int end) {
            int sum = 0;
            for (int i = 0; i < end && i <= REST; i++) {
                sum += sizes[i];
            }
            return sum;
        }

        int weightIn(int lane) {
            int sum = 0;
            for (int i = 0; i < sizes[lane]; i++) {
                sum += Traits.weight(appleAt(lane, i));
            }
            return sum;
        }

        int leastRed(int lane) {
            int least = NOT_FOUND;
            for (int i = 0; i < sizes[lane]; i++) {
                int red = Traits.red(appleAt(lane, i));
                if (least == NOT_FOUND || red < least) {
                    least = red;
                }
            }
            return least;
        }

        int greatestBruise(int lane) {
            int greatest = NOT_FOUND;
            for (int i = 0; i < sizes[lane]; i++) {
                greatest = Math.max(greatest, Traits.bruise(appleAt(lane, i)));
            }
            return greatest;
        }

        void copyFrom(Boxes other) {
            System.arraycopy(other.sizes, 0, sizes, 0, LANES + 1);
            System.arraycopy(other.apples, 0, apples, 0, REST_START + other.sizes[REST]);
        }
    }

    /** All that a change records: everything but the pad, the history and the snapshot. */
    private static final class State {
        final Book book = new Book();
        final Belt belt = new Belt();
        final Boxes boxes = new Boxes();
        final int[] settings = {0, 1, 10};
        final boolean[] watered = {true, true, true, true};
        int ticks = 0;
        int laid = 0;
        int ranOver = 0;
        int doublesGraded = 0;
        int bruisedByDrops = 0;
        int takenOut = 0;

        int settingShown(int what) {
            return what == BIAS ? settings[BIAS] + BIAS_SHOWN_ABOVE : settings[what];
        }

        int seen(int traits) {
            int red = Math.max(0, Math.min(MOST_RED, Traits.red(traits) + settings[BIAS]));
            int bruise = Traits.bruise(traits) >= settings[GLOW] ? Traits.bruise(traits) : 0;
            return Traits.of(Traits.weight(traits), red, bruise);
        }

        void layApple(int traits) {
            belt.layBelowEye(traits);
            laid++;
        }

        int emptyBox(int lane) {
            int had = boxes.sizes[lane];
            boxes.sizes[lane] = 0;
            takenOut += had;
            return had;
        }

        /** Lets a tick pass; tells how many apples fall into boxes in it. */
        int tick() {
            ticks++;
            gradeBelowEye();
            int fallen = fallOut();
            belt.move();
            for (int lane = 0; lane < LANES; lane++) {
                fallen += dropInto(lane);
            }
            return fallen;
        }

        void gradeBelowEye() {
            if (belt.sizes[0] == 0) {
                return;
            }
            belt.grades[0] = gradeToCome();
            if (belt.sizes[0] == CUP_ROOM) {
                doublesGraded++;
            }
        }

        int gradeToCome() {
            return belt.sizes[0] == 1 ? book.laneFromFirst(seen(belt.firstIn(0))) : REST;
        }

        int fallOut() {
            int last = CUPS - 1;
            for (int i = 0; i < belt.sizes[last]; i++) {
                boxes.put(REST, belt.apples[CUP_ROOM * last + i]);
            }
            return belt.sizes[last];
        }

        int dropInto(int lane) {
            int place = dropPlace(lane);
            if (belt.grades[place] != lane) {
                return 0;
            }
            if (boxes.sizes[lane] >= settings[FILL]) {
                belt.grades[place] = REST;
                ranOver++;
                return 0;
            }
            int traits = belt.firstIn(place);
            if (!watered[lane] && Traits.bruise(traits) < MOST_BRUISE) {
                traits = Traits.of(Traits.weight(traits), Traits.red(traits), Traits.bruise(traits) + 1);
                bruisedByDrops++;
            }
            boxes.put(lane, traits);
            belt.clearCup(place);
            return 1;
        }

        int dropPlace(int lane) {
            return 2 + 2 * lane;
        }

        int ticksToFall(int place) {
            if (belt.sizes[place] == 0) {
                return NOT_FOUND;
            }
            int grade = place == 0 ? gradeToCome() : belt.grades[place];
            return (grade == REST ? CUPS : dropPlace(grade)) - place;
        }

        /** Told by what the apple truly is, not by what the eye sees of it. */
        boolean isWrong(int lane, int traits) {
            return lane != REST && book.laneFromFirst(traits) != lane;
        }

        int wrongIn(int lane) {
            int sum = 0;
            for (int i = 0; i < boxes.sizes[lane]; i++) {
                if (isWrong(lane, boxes.appleAt(lane, i))) {
                    sum++;
                }
            }
            return sum;
        }

        int wrongInAll() {
            int sum = 0;
            for (int lane = 0; lane < LANES; lane++) {
                sum += wrongIn(lane);
            }
            return sum;
        }

        int singlesForLane(int lane) {
            int sum = 0;
            for (int place = 0; place < CUPS; place++) {
                if (belt.sizes[place] == 1 && book.laneFromFirst(seen(belt.firstIn(place))) == lane) {
                    sum++;
                }
            }
            return sum;
        }

        void copyFrom(State other) {
            book.copyFrom(other.book);
            belt.copyFrom(other.belt);
            boxes.copyFrom(other.boxes);
            System.arraycopy(other.settings, 0, settings, 0, SETTINGS);
            for (int lane = 0; lane < LANES; lane++) {
                watered[lane] = other.watered[lane];
            }
            ticks = other.ticks;
            laid = other.laid;
            ranOver = other.ranOver;
            doublesGraded = other.doublesGraded;
            bruisedByDrops = other.bruisedByDrops;
            takenOut = other.takenOut;
        }
    }

    /** The latest states in a ring: they are made once and written over again and again. */
    private static final class History {
        private final State[] states = new State[HISTORY_ROOM];
        private int oldest = 0;
        private int size = 0;

        History() {
            for (int i = 0; i < HISTORY_ROOM; i++) {
                states[i] = new State();
            }
        }

        void keep(State state) {
            if (size == HISTORY_ROOM) {
                oldest = (oldest + 1) % HISTORY_ROOM;
                size--;
            }
            states[(oldest + size) % HISTORY_ROOM].copyFrom(state);
            size++;
        }

        void giveBack(State state) {
            if (size > 0) {
                size--;
                state.copyFrom(states[(oldest + size) % HISTORY_ROOM]);
            }
        }
    }

    /**
     * The pad, and what was read from it last: the traits of each part, and its kind, which is
     * the lane of a rule. After a reading that failed, the position is the fault.
     */
    private static final class Pad {
        private static final int NO_APPLE = 0, FIRST_APPLE = 1, SECOND_APPLE = 2;
        private static final int MOST_MORE_DIGITS = 2;
        private final int[] signs = new int[PAD_ROOM];
        private final int[] partTraits = new int[PAD_ROOM];
        private final int[] partKinds = new int[PAD_ROOM];
        private int length = 0;
        private int position = 0;
        private int parts = 0;
        private int number = 0;
        private int traits = 0;

        void write(int code) {
            if (length < PAD_ROOM) {
                signs[length] = code;
                length++;
            }
        }

        boolean readApples() {
            startReading();
            int before = NO_APPLE;
            // Each part takes a character at least, so there are no more parts than characters.
            for (int i = 0; i < PAD_ROOM; i++) {
                int kind = readKind(before);
                if (kind != NO_APPLE && !readTraits()) {
                    return false;
                }
                addPart(kind);
                before = kind;
                if (position >= length) {
                    return true;
                }
                if (!take(',')) {
                    return false;
                }
            }
            return false;
        }

        boolean readRules() {
            startReading();
            for (int i = 0; i < PAD_ROOM; i++) {
                if (!readTraits() || !take('>') || !readNumber(0, LANES - 1)) {
                    return false;
                }
                addPart(number);
                if (position >= length) {
                    return true;
                }
                if (!take(',')) {
                    return false;
                }
            }
            return false;
        }

        void startReading() {
            position = 0;
            parts = 0;
            traits = 0;
        }

        void addPart(int kind) {
            if (parts < PAD_ROOM) {
                partTraits[parts] = traits;
                partKinds[parts] = kind;
                parts++;
            }
        }

        /** A second apple is possible only behind a first one. */
        int readKind(int before) {
            if (take('x')) {
                return NO_APPLE;
            }
            if (before == FIRST_APPLE && take('&')) {
                return SECOND_APPLE;
            }
            return FIRST_APPLE;
        }

        boolean readTraits() {
            if (!take('w') || !readNumber(LEAST_WEIGHT, MOST_WEIGHT)) {
                return false;
            }
            int weight = number;
            if (!take('r') || !readNumber(0, MOST_RED)) {
                return false;
            }
            int red = number;
            if (!take('b') || !readNumber(0, MOST_BRUISE)) {
                return false;
            }
            traits = Traits.of(weight, red, number);
            return true;
        }

        boolean take(char sign) {
            if (position < length && position < PAD_ROOM && signs[position] == sign) {
                position++;
                return true;
            }
            return false;
        }

        /** Takes digits as long as they can still lead to a number in the range. */
        boolean readNumber(int least, int most) {
            number = 0;
            int digits = 0;
            while (position < length && position < PAD_ROOM) {
                int digit = signs[position] - '0';
                boolean needlessZero = digits > 0 && number == 0;
                if (digit < 0 || digit > 9 || needlessZero || !leadsInto(number * 10 + digit, least, most)) {
                    break;
                }
                number = number * 10 + digit;
                digits++;
                position++;
            }
            return digits > 0 && number >= least && number <= most;
        }

        /** Whether a number of the range begins with the digits of this one. */
        static boolean leadsInto(int start, int least, int most) {
            if (start == 0) {
                return least == 0;
            }
            int low = start;
            int high = start;
            for (int more = 0; more <= MOST_MORE_DIGITS; more++) {
                if (low <= most && high >= least) {
                    return true;
                }
                low = low * 10;
                high = high * 10 + 9;
            }
            return false;
        }
    }
}
