import java.util.Arrays;

/**
 * An ice core melter. ../shared/DOC.md says what every call answers.
 *
 * All rows are made once, with the object: no call makes a new one.
 */
public final class CoreMelter {
    public static final int INVALID_ARGUMENT = -1;
    public static final int NOT_POSSIBLE = -2;
    public static final int LIMIT_REACHED = -3;
    public static final int NOT_FOUND = -4;

    private static final int MOST_TICKS_OF_A_RUN = 1000;
    private static final int MOST_TICKS_LOOKED_AHEAD = 2000;
    private static final int MOST_TICKS_OF_A_FLOW = 300;
    private static final int FLOW_STEP = 10;

    private final Plate now;
    private final Plate trial;
    private final History history;
    private final Text text;
    private final Reading reading;

    public CoreMelter() {
        now = new Plate();
        trial = new Plate();
        history = new History();
        text = new Text();
        reading = new Reading();
    }

    // ---- the core

    public int addSegment(int kind, int length, int density, int more) {
        if (kind < Core.ICE || kind > Core.DUST || Core.firstWrong(kind, length, density, more) != 0) {
            return INVALID_ARGUMENT;
        }
        if (now.core.isFull()) {
            return LIMIT_REACHED;
        }
        history.keep(now);
        now.core.put(kind, length, density, more);
        return now.core.size - 1;
    }

    public int segment(int segment, int what) {
        if (segment < 0 || segment >= now.core.size) {
            return INVALID_ARGUMENT;
        }
        switch (what) {
            case 0: return now.core.kinds[segment];
            case 1: return now.core.lengths[segment];
            case 2: return now.core.densities[segment];
            case 3: return now.core.mores[segment];
            case 4: return now.core.lowers[segment];
            case 5: return now.core.partBelow(now.front, segment);
            default: return INVALID_ARGUMENT;
        }
    }

    public int segmentAt(int depth) {
        if (depth < 0) {
            return INVALID_ARGUMENT;
        }
        if (depth >= now.core.height) {
            return NOT_FOUND;
        }
        return now.core.holding(depth);
    }

    public int waterBelow(int depth) {
        if (depth < 0 || depth > now.core.height) {
            return INVALID_ARGUMENT;
        }
        return now.core.waterUpTo(depth);
    }

    public int renew() {
        int front = now.front;
        history.keep(now);
        now.beginAnew();
        return front;
    }

    public int undo() {
        if (history.size <= 0) {
            return NOT_POSSIBLE;
        }
        history.giveBack(now);
        return history.size;
    }

    // ---- the plate and the lines

    public int set(int what, int value) {
        if (what < 0 || what >= Plate.SETTINGS || value < Plate.LEAST[what] || value > Plate.MOST[what]) {
            return INVALID_ARGUMENT;
        }
        int previous = now.settings[what];
        history.keep(now);
        now.settings[what] = value;
        return previous;
    }

    public int clean(int line) {
        if (line < 0 || line >= Lines.ALL) {
            return INVALID_ARGUMENT;
        }
        if (now.lines.stuck[line] == 0) {
            return NOT_POSSIBLE;
        }
        int dirt = now.lines.dirt[line];
        history.keep(now);
        now.lines.open(line);
        return dirt;
    }

    public int run(int ticks) {
        if (ticks < 1 || ticks > MOST_TICKS_OF_A_RUN) {
            return INVALID_ARGUMENT;
        }
        if (ticks > now.ticksLeft()) {
            return LIMIT_REACHED;
        }
        history.keep(now);
        now.pass(ticks);
        return now.told;
    }

    public int count(int what) {
        if (what >= 0 && what < Plate.SETTINGS) {
            return now.settings[what];
        }
        switch (what) {
            case 8: return now.core.size;
            case 9: return now.core.height;
            case 10: return now.front;
            case 11: return now.store;
            case 12: return now.stock;
            case 13: return now.stockGas;
            case 14: return now.stockDirt;
            case 15: return now.told;
            case 16: return now.vials.sealed;
            case 17: return now.vials.present;
            case 18: return now.ticks;
            case 19: return now.reason;
            case 20: return now.stopped;
            case 21: return now.lines.stuckOnes();
            case 22: return history.size;
            case 23: return text.length;
            default: return INVALID_ARGUMENT;
        }
    }

    public int account(int what) {
        if (what < 0 || what >= Plate.ACCOUNTS) {
            return INVALID_ARGUMENT;
        }
        return now.accounts[what];
    }

    public int line(int line, int what) {
        if (line < 0 || line >= Lines.ALL) {
            return INVALID_ARGUMENT;
        }
        switch (what) {
            case 0: return now.lines.stuck[line];
            case 1: return now.lines.dirt[line];
            case 2: return now.lines.gap[line];
            case 3: return now.lines.drawn[line];
            case 4: return now.lines.wasted[line];
            default: return INVALID_ARGUMENT;
        }
    }

    // ---- depths and vials

    public int again() {
        return Math.min(now.core.depthOf(now.drawn()), now.front);
    }

    public int vial(int vial, int what) {
        if (vial < 0 || vial >= now.vials.sealed) {
            return INVALID_ARGUMENT;
        }
        switch (what) {
            case 0: return now.vials.water[vial];
            case 1: return now.vials.depth[vial];
            case 2: return vial == 0 ? 0 : now.vials.depth[vial - 1];
            case 3: return now.vials.ticks[vial];
            default: return INVALID_ARGUMENT;
        }
    }

    public int vialAt(int depth) {
        if (depth < 0) {
            return INVALID_ARGUMENT;
        }
        int found = now.vials.firstBeyond(depth);
        return found < now.vials.sealed ? found : NOT_FOUND;
    }

    // ---- what would be; nothing changes

    public int ifRun(int ticks, int what) {
        if (ticks < 1 || ticks > MOST_TICKS_OF_A_RUN || what < 0 || what > 6) {
            return INVALID_ARGUMENT;
        }
        if (ticks > now.ticksLeft()) {
            return LIMIT_REACHED;
        }
        trial.copyFrom(now);
        trial.pass(ticks);
        switch (what) {
            case 0: return trial.told;
            case 1: return trial.front;
            case 2: return trial.accounts[Plate.COLLECTED] - now.accounts[Plate.COLLECTED];
            case 3: return trial.accounts[Plate.WASTED] - now.accounts[Plate.WASTED];
            case 4: return trial.vials.sealed - now.vials.sealed;
            case 5: return trial.lines.stuckOnes();
            default: return trial.stopped - now.stopped;
        }
    }

    public int ticksTo(int depth) {
        if (depth < 0) {
            return INVALID_ARGUMENT;
        }
        int most = Math.min(MOST_TICKS_LOOKED_AHEAD, now.ticksLeft());
        trial.copyFrom(now);
        for (int gone = 0; gone < most && trial.told < depth; gone++) {
            trial.tick();
        }
        return trial.told < depth ? NOT_FOUND : trial.ticks - now.ticks;
    }

    public int flowFor(int ticks) {
        if (ticks < 1 || ticks > MOST_TICKS_OF_A_FLOW) {
            return INVALID_ARGUMENT;
        }
        if (ticks > now.ticksLeft()) {
            return LIMIT_REACHED;
        }
        int best = FLOW_STEP;
        int mostCollected = -1;
        for (int flow = FLOW_STEP; flow <= Plate.MOST[Plate.FLOW]; flow += FLOW_STEP) {
            trial.copyFrom(now);
            trial.settings[Plate.FLOW] = flow;
            trial.pass(ticks);
            if (trial.accounts[Plate.COLLECTED] > mostCollected) {
                mostCollected = trial.accounts[Plate.COLLECTED];
                best = flow;
            }
        }
        return best;
    }

    // ---- texts

    public int type(int character) {
        if (character < 32 || character > 126) {
            return INVALID_ARGUMENT;
        }
        if (text.isFull()) {
            return LIMIT_REACHED;
        }
        text.append((char) character);
        return text.length;
    }

    public int clearText() {
        int length = text.length;
        text.length = 0;
        return length;
    }

    public int fault(int what) {
        if (what < 0 || what > 2) {
            return INVALID_ARGUMENT;
        }
        reading.read(text, now.core);
        if (reading.reason == 0) {
            return NOT_FOUND;
        }
        switch (what) {
            case 0: return reading.first;
            case 1: return reading.reason;
            default: return reading.number;
        }
    }

    public int lay() {
        reading.read(text, now.core);
        if (reading.reason != 0) {
            return NOT_POSSIBLE;
        }
        int laid = reading.core.size - now.core.size;
        history.keep(now);
        now.core.copyFrom(reading.core);
        return laid;
    }

    /** The segments, from the lower end up. */
    private static final class Core {
        static final int MOST_SEGMENTS = 20;
        static final int ICE = 0;
        static final int CRACK = 1;
        static final int DUST = 2;

        int size;
        int height;
        final int[] kinds = new int[MOST_SEGMENTS];
        final int[] lengths = new int[MOST_SEGMENTS];
        final int[] densities = new int[MOST_SEGMENTS];
        final int[] mores = new int[MOST_SEGMENTS];
        final int[] lowers = new int[MOST_SEGMENTS];

        void copyFrom(Core other) {
            size = other.size;
            height = other.height;
            System.arraycopy(other.kinds, 0, kinds, 0, MOST_SEGMENTS);
            System.arraycopy(other.lengths, 0, lengths, 0, MOST_SEGMENTS);
            System.arraycopy(other.densities, 0, densities, 0, MOST_SEGMENTS);
            System.arraycopy(other.mores, 0, mores, 0, MOST_SEGMENTS);
            System.arraycopy(other.lowers, 0, lowers, 0, MOST_SEGMENTS);
        }

        /** Which of the numbers of a segment is the first one out of its range, from 1 on; 0 if none is. */
        static int firstWrong(int kind, int length, int density, int more) {
            if (length < 1 || length > 300) {
                return 1;
            }
            if (density < leastDensity(kind) || density > mostDensity(kind)) {
                return 2;
            }
            return more < leastMore(kind) || more > mostMore(kind) ? 3 : 0;
        }

        static int leastDensity(int kind) {
            return kind == CRACK ? 0 : 60;
        }

        static int mostDensity(int kind) {
            return kind == CRACK ? 0 : 92;
        }

        static int leastMore(int kind) {
            return kind == DUST ? 1 : 0;
        }

        static int mostMore(int kind) {
            switch (kind) {
                case ICE: return 50;
                case DUST: return 100;
                default: return 0;
            }
        }

        boolean isFull() {
            return size >= MOST_SEGMENTS;
        }

        void put(int kind, int length, int density, int more) {
            if (isFull()) {
                return;
            }
            kinds[size] = kind;
            lengths[size] = length;
            densities[size] = density;
            mores[size] = more;
            lowers[size] = height;
            height += length;
            size++;
        }

        int end(int segment) {
            return lowers[segment] + lengths[segment];
        }

        /** The segment of the unit above a depth; the number of segments if the core is not so long. */
        int holding(int depth) {
            int segment = 0;
            while (segment < size && depth >= end(segment)) {
                segment++;
            }
            return segment;
        }

        int gasOfUnit(int segment) {
            return kinds[segment] == ICE ? densities[segment] * mores[segment] / 100 : 0;
        }

        int dirtOfUnit(int segment) {
            return kinds[segment] == DUST ? mores[segment] : 0;
        }

        int partBelow(int depth, int segment) {
            return Math.max(0, Math.min(depth - lowers[segment], lengths[segment]));
        }

        int waterUpTo(int depth) {
            int water = 0;
            for (int segment = 0; segment < size; segment++) {
                water += densities[segment] * partBelow(depth, segment);
            }
            return water;
        }

        /** The greatest depth below which there is at most this water. */
        int depthOf(int water) {
            int rest = water;
            int depth = 0;
            for (int segment = 0; segment < size; segment++) {
                int density = densities[segment];
                int units = density > 0 ? Math.min(lengths[segment], rest / density) : lengths[segment];
                depth += units;
                rest -= units * density;
                if (units < lengths[segment]) {
                    break;
                }
            }
            return depth;
        }
    }

    /** The lines that draw the melt. */
    private static final class Lines {
        static final int ALL = 4;

        final int[] stuck = new int[ALL];
        final int[] dirt = new int[ALL];
        final int[] gap = new int[ALL];
        final int[] drawn = new int[ALL];
        final int[] wasted = new int[ALL];

        void copyFrom(Lines other) {
            System.arraycopy(other.stuck, 0, stuck, 0, ALL);
            System.arraycopy(other.dirt, 0, dirt, 0, ALL);
            System.arraycopy(other.gap, 0, gap, 0, ALL);
            System.arraycopy(other.drawn, 0, drawn, 0, ALL);
            System.arraycopy(other.wasted, 0, wasted, 0, ALL);
        }

        void beginAnew() {
            Arrays.fill(stuck, 0);
            Arrays.fill(dirt, 0);
            Arrays.fill(gap, 0);
            Arrays.fill(drawn, 0);
            Arrays.fill(wasted, 0);
        }

        void open(int line) {
            stuck[line] = 0;
            dirt[line] = 0;
            gap[line] = 0;
        }

        int stuckOnes() {
            int ones = 0;
            for (int line = 0; line < ALL; line++) {
                ones += stuck[line];
            }
            return ones;
        }

        /** Moves the gap of a line on by one drawing, and tells whether this drawing is wasted. */
        boolean breaks(int line, boolean bubbles, int lag) {
            if (bubbles) {
                gap[line] = 1;
                return true;
            }
            if (gap[line] == 0) {
                return false;
            }
            gap[line]++;
            if (gap[line] > lag) {
                gap[line] = 0;
            }
            return true;
        }

        void soil(int line, int more, int limit) {
            dirt[line] += more;
            if (dirt[line] >= limit) {
                stuck[line] = 1;
            }
        }
    }

    /** The sealed vials and the present one. */
    private static final class Vials {
        static final int MOST_SEALED = 40;

        int sealed;
        int present;
        final int[] water = new int[MOST_SEALED];
        final int[] depth = new int[MOST_SEALED];
        final int[] ticks = new int[MOST_SEALED];

        void copyFrom(Vials other) {
            sealed = other.sealed;
            present = other.present;
            System.arraycopy(other.water, 0, water, 0, MOST_SEALED);
            System.arraycopy(other.depth, 0, depth, 0, MOST_SEALED);
            System.arraycopy(other.ticks, 0, ticks, 0, MOST_SEALED);
        }

        void beginAnew() {
            sealed = 0;
            present = 0;
        }

        void sealIfFull(int enough, int told, int gone) {
            if (present < enough || sealed >= MOST_SEALED) {
                return;
            }
            water[sealed] = present;
            depth[sealed] = told;
            ticks[sealed] = gone;
            sealed++;
            present = 0;
        }

        /** The first sealed vial whose depth is greater; the number of sealed ones if there is none. */
        int firstBeyond(int place) {
            int vial = 0;
            while (vial < sealed && depth[vial] <= place) {
                vial++;
            }
            return vial;
        }
    }

    /** All that a change may alter: the core, the settings and what stands on the plate and behind it. */
    private static final class Plate {
        static final int SETTINGS = 8;
        static final int POWER = 0;
        static final int HEAT = 1;
        static final int STOCK_LIMIT = 2;
        static final int FLOW = 3;
        static final int DIRT_LIMIT = 4;
        static final int BUBBLE_LIMIT = 5;
        static final int VIAL = 6;
        static final int LAG = 7;
        static final int[] LEAST = {0, 10, 100, 1, 50, 5, 50, 0};
        static final int[] MOST = {200, 200, 20000, 500, 5000, 200, 5000, 50};
        static final int[] INITIAL = {100, 50, 2000, 60, 500, 40, 500, 5};

        static final int ACCOUNTS = 7;
        static final int MELTED = 0;
        static final int COLLECTED = 1;
        static final int WASTED = 2;
        static final int GAS_MELTED = 3;
        static final int GAS_DRAWN = 4;
        static final int DIRT_MELTED = 5;
        static final int DIRT_DRAWN = 6;

        static final int AT_TOP = 1;
        static final int ALL_STUCK = 2;
        static final int STOCK_FULL = 3;

        static final int MOST_TICKS = 20000;

        final Core core = new Core();
        final Lines lines = new Lines();
        final Vials vials = new Vials();
        final int[] settings = new int[SETTINGS];
        final int[] accounts = new int[ACCOUNTS];
        int front;
        int store;
        int stock;
        int stockGas;
        int stockDirt;
        int told;
        int waterBelowTold;
        int ticks;
        int reason;
        int stopped;

        Plate() {
            System.arraycopy(INITIAL, 0, settings, 0, SETTINGS);
        }

        void copyFrom(Plate other) {
            core.copyFrom(other.core);
            lines.copyFrom(other.lines);
            vials.copyFrom(other.vials);
            System.arraycopy(other.settings, 0, settings, 0, SETTINGS);
            System.arraycopy(other.accounts, 0, accounts, 0, ACCOUNTS);
            front = other.front;
            store = other.store;
            stock = other.stock;
            stockGas = other.stockGas;
            stockDirt = other.stockDirt;
            told = other.told;
            waterBelowTold = other.waterBelowTold;
            ticks = other.ticks;
            reason = other.reason;
            stopped = other.stopped;
        }

        void beginAnew() {
            lines.beginAnew();
            vials.beginAnew();
            Arrays.fill(accounts, 0);
            front = 0;
            store = 0;
            stock = 0;
            stockGas = 0;
            stockDirt = 0;
            told = 0;
            waterBelowTold = 0;
            ticks = 0;
            reason = 0;
            stopped = 0;
        }

        int ticksLeft() {
            return MOST_TICKS - ticks;
        }

        int drawn() {
            return accounts[COLLECTED] + accounts[WASTED];
        }

        void pass(int many) {
            for (int gone = 0; gone < many; gone++) {
                tick();
            }
        }

        void tick() {
            ticks++;
            reason = reasonToStop();
            if (reason == 0) {
                melt();
            } else {
                stopped++;
            }
            for (int line = 0; line < Lines.ALL; line++) {
                draw(line);
            }
            raiseTold();
            vials.sealIfFull(settings[VIAL], told, ticks);
        }

        private int reasonToStop() {
            if (front >= core.height) {
                return AT_TOP;
            }
            if (lines.stuckOnes() == Lines.ALL) {
                return ALL_STUCK;
            }
            return stock >= settings[STOCK_LIMIT] ? STOCK_FULL : 0;
        }

        private void melt() {
            store += settings[POWER];
            for (int s = core.holding(front); s < core.size && stock < settings[STOCK_LIMIT]; s++) {
                if (core.kinds[s] == Core.CRACK) {
                    front = core.end(s);
                } else {
                    meltIn(s);
                }
                if (front < core.end(s)) {
                    break;
                }
            }
            if (front >= core.height) {
                store = 0;
            }
        }

        private void meltIn(int segment) {
            int end = core.end(segment);
            int density = core.densities[segment];
            int gas = core.gasOfUnit(segment);
            int dirt = core.dirtOfUnit(segment);
            int heat = settings[HEAT] * density / 100;
            while (front < end && stock < settings[STOCK_LIMIT] && store >= heat) {
                front++;
                store -= heat;
                stock += density;
                stockGas += gas;
                stockDirt += dirt;
                accounts[MELTED] += density;
                accounts[GAS_MELTED] += gas;
                accounts[DIRT_MELTED] += dirt;
            }
        }

        private void draw(int line) {
            int water = Math.min(settings[FLOW], stock);
            if (lines.stuck[line] != 0 || stock <= 0 || water <= 0) {
                return;
            }
            int gas = stockGas * water / stock;
            int dirt = stockDirt * water / stock;
            stock -= water;
            stockGas -= gas;
            stockDirt -= dirt;
            accounts[GAS_DRAWN] += gas;
            accounts[DIRT_DRAWN] += dirt;
            lines.drawn[line] += water;
            boolean bubbles = 100 * gas / water > settings[BUBBLE_LIMIT];
            if (lines.breaks(line, bubbles, settings[LAG])) {
                lines.wasted[line] += water;
                accounts[WASTED] += water;
            } else {
                vials.present += water;
                accounts[COLLECTED] += water;
            }
            lines.soil(line, dirt, settings[DIRT_LIMIT]);
        }

        /** The depth that is told goes up from where it was, so far as the drawn water and the front let it. */
        private void raiseTold() {
            int drawn = drawn();
            for (int s = core.holding(told); s < core.size && told < front; s++) {
                int end = Math.min(core.end(s), front);
                int density = core.densities[s];
                while (told < end && waterBelowTold + density <= drawn) {
                    told++;
                    waterBelowTold += density;
                }
                if (told < end) {
                    break;
                }
            }
        }
    }

    /** The latest states ahead of changes; a ring, so that the oldest one is dropped without moving the others. */
    private static final class History {
        static final int MOST_STATES = 5;

        int size;
        private int oldest;
        private final Plate[] states = new Plate[MOST_STATES];

        History() {
            for (int i = 0; i < MOST_STATES; i++) {
                states[i] = new Plate();
            }
        }

        void keep(Plate plate) {
            if (size >= MOST_STATES) {
                oldest = (oldest + 1) % MOST_STATES;
                size = MOST_STATES - 1;
            }
            states[(oldest + size) % MOST_STATES].copyFrom(plate);
            size++;
        }

        void giveBack(Plate plate) {
            if (size <= 0) {
                return;
            }
            size--;
            plate.copyFrom(states[(oldest + size) % MOST_STATES]);
        }
    }

    /** The characters that were typed. */
    private static final class Text {
        static final int MOST_CHARACTERS = 100;
        static final char NONE = 0;

        int length;
        private final char[] characters = new char[MOST_CHARACTERS];

        boolean isFull() {
            return length >= MOST_CHARACTERS;
        }

        void append(char character) {
            if (isFull()) {
                return;
            }
            characters[length] = character;
            length++;
        }

        char at(int index) {
            return index >= 0 && index < length ? characters[index] : NONE;
        }

        boolean isSmallLetter(int index) {
            return at(index) >= 'a' && at(index) <= 'z';
        }

        boolean isDigit(int index) {
            return at(index) >= '0' && at(index) <= '9';
        }

        boolean holds(String word, int from, int to) {
            if (to - from != word.length()) {
                return false;
            }
            for (int i = 0; i < word.length(); i++) {
                if (at(from + i) != word.charAt(i)) {
                    return false;
                }
            }
            return true;
        }
    }

    /** Reads a text: either its segments are on top of a copy of the core then, or its fault is known. */
    private static final class Reading {
        static final int NO_WORD = 1;
        static final int NUMBER_MISSING = 2;
        static final int NUMBER_WRONG = 3;
        static final int TOO_MANY = 4;
        static final int NO_END = 5;

        static final int NO_KIND = -1;
        static final int MOST_NUMBERS = 3;
        static final int MOST_DIGITS = 3;

        final Core core = new Core();
        int first;
        int reason;
        int number;
        private int next;
        private final int[] numbers = new int[MOST_NUMBERS];

        void read(Text text, Core below) {
            core.copyFrom(below);
            reason = 0;
            number = 0;
            next = 0;
            for (int i = 0; i <= Core.MOST_SEGMENTS && next < text.length && reason == 0; i++) {
                first = next;
                readSegment(text);
            }
        }

        private void readSegment(Text text) {
            int kind = readWord(text);
            if (kind == NO_KIND) {
                reason = NO_WORD;
                return;
            }
            number = readNumbers(text, kind == Core.CRACK ? 1 : MOST_NUMBERS);
            if (number != 0) {
                reason = NUMBER_MISSING;
                return;
            }
            number = Core.firstWrong(kind, numbers[0], numbers[1], numbers[2]);
            if (number != 0) {
                reason = NUMBER_WRONG;
            } else if (core.isFull()) {
                reason = TOO_MANY;
            } else if (text.at(next) != ';') {
                reason = NO_END;
            } else {
                next++;
                core.put(kind, numbers[0], numbers[1], numbers[2]);
            }
        }

        private int readWord(Text text) {
            int begin = next;
            while (next < text.length && text.isSmallLetter(next)) {
                next++;
            }
            if (text.holds("ice", begin, next)) {
                return Core.ICE;
            }
            if (text.holds("crack", begin, next)) {
                return Core.CRACK;
            }
            return text.holds("dust", begin, next) ? Core.DUST : NO_KIND;
        }

        /** Returns which number is missing, from 1 on; 0 if none is. Numbers that the kind has not become 0. */
        private int readNumbers(Text text, int many) {
            Arrays.fill(numbers, 0);
            for (int i = 0; i < many && i < MOST_NUMBERS; i++) {
                if (text.at(next) != ' ' || !text.isDigit(next + 1)) {
                    return i + 1;
                }
                next++;
                numbers[i] = readNumber(text);
            }
            return 0;
        }

        private int readNumber(Text text) {
            int value = 0;
            for (int digits = 0; digits < MOST_DIGITS && text.isDigit(next); digits++) {
                value = 10 * value + text.at(next) - '0';
                next++;
            }
            return value;
        }
    }
}
