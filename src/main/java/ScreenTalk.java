import java.util.Arrays;

/** A screen's bytes, the modes they leave, and a link that is trained to carry them. */
public final class ScreenTalk {
    public static final int NONE = -1;

    private static final int NO_SUCH = -2;
    private static final int BAD_NUMBER = -3;
    private static final int TOO_MANY = -4;
    private static final int NOT_NOW = -5;
    private static final int FAULTY = -30;

    private static final int GREATEST_INT = 2147483647;

    private static final int BLOCK = 128;
    private static final int MOST_BLOCKS = 4;
    private static final int TAPE_ROOM = 520;
    private static final int FED_AT_ONCE = 20;

    private static final int DESCRIPTOR_START = 54;
    private static final int DESCRIPTOR_SIZE = 18;
    private static final int DESCRIPTORS = 4;
    private static final int NAME_TAG = 0xFC;
    private static final int RANGE_TAG = 0xFD;
    private static final int NAME_ROOM = 13;
    private static final int RANGE_PARTS = 5;

    private static final int MOST_MODES = 40;
    private static final int BY_BASE = 0;
    private static final int BY_EXTENSIONS = 1;
    private static final int BY_CODES = 2;
    private static final int BY_STANDARD = 3;
    private static final int BY_ESTABLISHED = 4;

    // why a MODE is left out
    private static final int BROKEN = 0;
    private static final int UNKNOWN = 1;
    private static final int INTERLACED = 2;
    private static final int OUT_OF_RANGE = 3;
    private static final int ABOVE_MOST = 4;
    private static final int FOUND_AHEAD = 5;
    private static final int TOO_LATE = 6;

    private static final int PLAIN = 0;
    private static final int NARROW = 1;
    private static final int LEAST_HERTZ = 20;
    private static final int GREATEST_HERTZ = 240;

    private static final int LANES = 4;
    private static final int GREATEST_LOSS = 30;
    private static final int GREATEST_SLOW = 12;
    private static final int GREATEST_RATE = 3;
    private static final int LADDER_TOP = 3;
    private static final int MOST_TRIES_AT_ONCE = 100;
    // 12 links to fall from, each tried 10 times for its clock and 6 times for its evenness
    private static final int MOST_TRIES = 192;
    private static final int MOST_FALLS = 12;

    private static final int PHASE_CLOCK = 1;
    private static final int PHASE_EVEN = 2;
    private static final int PHASE_UP = 3;
    private static final int PHASE_DOWN = 4;
    private static final int ALL_CLOCKED = 7;
    private static final int WENT_UP = 8;

    private static final int[] RATES = {162000, 270000, 540000, 810000};

    // code, H, V, whole H, whole V, CLOCK
    private static final int[] CODE_ROWS = {
        1, 640, 480, 800, 525, 25175,
        2, 720, 480, 858, 525, 27000,
        3, 720, 480, 858, 525, 27000,
        4, 1280, 720, 1650, 750, 74250,
        16, 1920, 1080, 2200, 1125, 148500,
        17, 720, 576, 864, 625, 27000,
        18, 720, 576, 864, 625, 27000,
        19, 1280, 720, 1980, 750, 74250,
        31, 1920, 1080, 2640, 1125, 148500,
        32, 1920, 1080, 2750, 1125, 74250,
        63, 1920, 1080, 2200, 1125, 297000,
        95, 3840, 2160, 4400, 2250, 297000,
        97, 3840, 2160, 4400, 2250, 594000};
    private static final int CODE_COLUMNS = 6;

    // byte of the base, bit, H, V, HERTZ
    private static final int[] ESTABLISHED_ROWS = {
        35, 5, 640, 480, 60,
        35, 2, 640, 480, 75,
        35, 0, 800, 600, 60,
        36, 3, 1024, 768, 60,
        36, 1, 1024, 768, 75,
        36, 0, 1280, 1024, 75};
    private static final int ESTABLISHED_COLUMNS = 5;

    private final Bytes tape;
    private final Bytes latest;
    private final Inspection inspection;
    private final Screen screen;
    private final ModeList modes;
    private final Forge forge;
    private final Timing drawn;
    private final StringBuilder text;
    private final Wiring wiring;
    private final Training training;
    private final Journal journal;
    private final Wiring paperWiring;
    private final Training paper;
    private int deepest;

    public ScreenTalk() {
        tape = new Bytes();
        latest = new Bytes();
        inspection = new Inspection();
        screen = new Screen();
        modes = new ModeList();
        forge = new Forge();
        drawn = new Timing();
        text = new StringBuilder();
        wiring = new Wiring();
        training = new Training();
        journal = new Journal();
        paperWiring = new Wiring();
        paper = new Training();
        deepest = 8;
    }

    // ---- blocks

    public int feed(int a, int b, int c, int d, int e) {
        if (tape.length + FED_AT_ONCE > TAPE_ROOM) {
            return TOO_MANY;
        }
        tape.addInt(a);
        tape.addInt(b);
        tape.addInt(c);
        tape.addInt(d);
        tape.addInt(e);
        return tape.length;
    }

    public int load(int n) {
        if (n < 0 || n > tape.length) {
            return BAD_NUMBER;
        }
        latest.take(tape, n);
        tape.clear();
        inspection.inspect(latest);
        if (inspection.kind != 0) {
            return FAULTY - inspection.kind;
        }
        screen.read(latest);
        modes.collect(screen);
        forge.make(screen, modes);
        return modes.size;
    }

    public int fault(int what) {
        switch (what) {
            case 0: return inspection.kind;
            case 1: return inspection.place;
            default: return NONE;
        }
    }

    public int mend(int i) {
        if (i < 0) {
            return BAD_NUMBER;
        }
        if (i >= latest.length / BLOCK * BLOCK) {
            return NONE;
        }
        return (latest.at(i) - latest.sumOfBlock(i / BLOCK)) & 255;
    }

    public int told(int what) {
        if (what < 0 || what > 26 || what > 16 && what < 20) {
            return NO_SUCH;
        }
        if (screen.blocks == 0) {
            return NOT_NOW;
        }
        if (what >= 20) {
            return modes.leftOutBy(what - 20);
        }
        if (what >= 9 && what <= 13) {
            return screen.rangePart(what - 9);
        }
        return toldPlainly(what);
    }

    private int toldPlainly(int what) {
        switch (what) {
            case 0: case 1: case 2: return screen.makerLetter(what);
            case 3: return screen.bytes.at(21);
            case 4: return screen.bytes.at(22);
            case 5: return screen.blocks - 1;
            case 6: return screen.detailedCount;
            case 7: return screen.sounds;
            case 8: return screen.codeCount;
            case 14: return screen.most;
            case 15: return screen.nameLength;
            default: return modes.size;
        }
    }

    public int name(int k) {
        if (k < 0) {
            return BAD_NUMBER;
        }
        return k < screen.nameLength ? screen.nameByte(k) : NONE;
    }

    public int detailed(int k, int what) {
        Timing timing = screen.detailedAt(k);
        if (timing == null || what < 0 || what > 10) {
            return NO_SUCH;
        }
        return timing.part(what);
    }

    public int forged(int i) {
        if (i < 0 || i >= BLOCK) {
            return NO_SUCH;
        }
        if (screen.blocks == 0) {
            return NOT_NOW;
        }
        return forge.fitting ? forge.at(i) : NONE;
    }

    // ---- modes

    public int mode(int i, int what) {
        Mode found = modes.at(i);
        if (found == null) {
            return NO_SUCH;
        }
        switch (what) {
            case 0: return found.timing.h;
            case 1: return found.timing.v;
            case 2: return found.hertz;
            case 3: return found.timing.clock;
            case 4: return found.timing.wholeH();
            case 5: return found.timing.wholeV();
            case 6: return found.source;
            case 7: return found.preferred ? 1 : 0;
            case 8: return found.timing.thousandths();
            default: return NO_SUCH;
        }
    }

    public int called(int i, int k) {
        Mode found = modes.at(i);
        if (found == null) {
            return NO_SUCH;
        }
        if (k < 0) {
            return BAD_NUMBER;
        }
        text.setLength(0);
        text.append(found.timing.h).append('x').append(found.timing.v).append('@').append(found.hertz);
        if (found.preferred) {
            text.append('!');
        }
        return k < text.length() ? text.charAt(k) : NONE;
    }

    public int find(int h, int v, int hertz) {
        return modes.indexOf(h, v, hertz);
    }

    // ---- formulas

    public int formula(int kind, int h, int v, int hertz, int what) {
        if (!isFormula(kind) || what < 0 || what > 9) {
            return NO_SUCH;
        }
        if (!isSize(h, v) || !isHertz(hertz)) {
            return BAD_NUMBER;
        }
        drawn.draw(kind, h, v, hertz);
        switch (what) {
            case 8: return drawn.clock;
            case 9: return drawn.thousandths();
            default: return drawn.part(what + 1);
        }
    }

    public int descriptor(int kind, int h, int v, int hertz, int k) {
        if (!isFormula(kind) || k < 0 || k >= DESCRIPTOR_SIZE) {
            return NO_SUCH;
        }
        if (!isSize(h, v) || !isHertz(hertz)) {
            return BAD_NUMBER;
        }
        drawn.draw(kind, h, v, hertz);
        return drawn.fits() ? drawn.descriptorByte(k) : NOT_NOW;
    }

    public int fastest(int kind, int h, int v, int lanes, int rate, int depth) {
        if (!isFormula(kind)) {
            return NO_SUCH;
        }
        if (!isSize(h, v) || !isLink(lanes, rate) || !isDepth(depth)) {
            return BAD_NUMBER;
        }
        long space = roomOf(lanes, rate);
        for (int hertz = GREATEST_HERTZ; hertz >= LEAST_HERTZ; hertz--) {
            drawn.draw(kind, h, v, hertz);
            if (needOf(drawn.clock, depth) <= space) {
                return hertz;
            }
        }
        return NONE;
    }

    private static boolean isFormula(int kind) {
        return kind == PLAIN || kind == NARROW;
    }

    private static boolean isSize(int h, int v) {
        return h >= 64 && h <= 4095 && v >= 48 && v <= 4095;
    }

    private static boolean isHertz(int hertz) {
        return hertz >= LEAST_HERTZ && hertz <= GREATEST_HERTZ;
    }

    // ---- what is carried

    public int wish(int depth) {
        if (!isDepth(depth)) {
            return BAD_NUMBER;
        }
        int before = deepest;
        deepest = depth;
        return before;
    }

    public int room(int lanes, int rate) {
        return isLink(lanes, rate) ? roomOf(lanes, rate) : BAD_NUMBER;
    }

    public int need(int i, int depth) {
        Mode found = modes.at(i);
        if (found == null) {
            return NO_SUCH;
        }
        if (!isDepth(depth)) {
            return BAD_NUMBER;
        }
        return (int) needOf(found.timing.clock, depth);
    }

    public int best(int lanes, int rate, int what) {
        if (what < 0 || what > 1) {
            return NO_SUCH;
        }
        if (!isLink(lanes, rate)) {
            return BAD_NUMBER;
        }
        return bestWithin(roomOf(lanes, rate), what);
    }

    public int cheapest(int i, int depth) {
        Mode found = modes.at(i);
        if (found == null) {
            return NO_SUCH;
        }
        if (!isDepth(depth)) {
            return BAD_NUMBER;
        }
        long needed = needOf(found.timing.clock, depth);
        int link = NONE;
        int least = GREATEST_INT;
        // fewer lanes come first, so that of like ones they stay
        for (int lanes = 1; lanes <= LANES; lanes *= 2) {
            for (int rate = 0; rate <= GREATEST_RATE; rate++) {
                int space = roomOf(lanes, rate);
                if (needed <= space && space < least) {
                    least = space;
                    link = 10 * lanes + rate;
                }
            }
        }
        return link;
    }

    private static boolean isLink(int lanes, int rate) {
        return (lanes == 1 || lanes == 2 || lanes == 4) && rate >= 0 && rate <= GREATEST_RATE;
    }

    private static boolean isDepth(int depth) {
        return depth == 6 || depth == 8 || depth == 10 || depth == 12;
    }

    private static int roomOf(int lanes, int rate) {
        return rate >= 0 && rate < RATES.length ? lanes * RATES[rate] * 8 : 0;
    }

    private static long needOf(int clock, int depth) {
        return (long) clock * 3 * depth;
    }

    /** The greatest DEPTH up to WISH by which a CLOCK is carried; 0: none. */
    private int depthWithin(int clock, int space) {
        for (int depth = deepest; depth >= 6; depth -= 2) {
            if (needOf(clock, depth) <= space) {
                return depth;
            }
        }
        return 0;
    }

    /** Of the best MODE: what 0 its number, 1 its DEPTH, 2 how much of the room is left. */
    private int bestWithin(int space, int what) {
        for (int i = 0; i < modes.size; i++) {
            Mode next = modes.at(i);
            int depth = next == null ? 0 : depthWithin(next.timing.clock, space);
            if (depth > 0) {
                switch (what) {
                    case 0: return i;
                    case 1: return depth;
                    default: return space - (int) needOf(next.timing.clock, depth);
                }
            }
        }
        return NONE;
    }

    // ---- training

    public int lane(int l, int loss, int slow) {
        if (!isLane(l)) {
            return NO_SUCH;
        }
        if (loss < 0 || loss > GREATEST_LOSS || slow < 0 || slow > GREATEST_SLOW) {
            return BAD_NUMBER;
        }
        int before = wiring.loss[l];
        wiring.loss[l] = loss;
        wiring.slow[l] = slow;
        endTraining();
        return before;
    }

    public int wire(int lanes, int rate) {
        if (!isLink(lanes, rate)) {
            return BAD_NUMBER;
        }
        wiring.lanes = lanes;
        wiring.rate = rate;
        endTraining();
        return roomOf(lanes, rate);
    }

    public int begin() {
        training.start(wiring);
        journal.clear();
        return roomOf(wiring.lanes, wiring.rate);
    }

    public int tries(int n) {
        if (n < 1 || n > MOST_TRIES_AT_ONCE) {
            return BAD_NUMBER;
        }
        if (!training.isRunning()) {
            return NOT_NOW;
        }
        int made = 0;
        while (made < n && training.isRunning()) {
            journal.open(training);
            int outcome = training.attempt(wiring);
            journal.close(training.found, outcome);
            made++;
        }
        return made;
    }

    public int state(int what) {
        switch (what) {
            case 0: return training.phase;
            case 1: return training.lanes;
            case 2: return training.rate;
            case 3: return training.triesOfPhase();
            case 4: return training.triesInAll;
            case 5: return training.falls;
            case 6: return greatest(training.swing);
            case 7: return greatest(training.emphasis);
            default: return NO_SUCH;
        }
    }

    public int level(int l, int what) {
        if (!isLane(l)) {
            return NO_SUCH;
        }
        switch (what) {
            case 0: return wiring.loss[l];
            case 1: return wiring.slow[l];
            case 2: return training.swing[l];
            case 3: return training.emphasis[l];
            case 4: return training.clocked >> l & 1;
            case 5: return training.even >> l & 1;
            default: return NO_SUCH;
        }
    }

    public int fall(int k, int what) {
        return k < 0 || k >= journal.falls || what < 0 || what > 3 ? NO_SUCH : journal.fallPart(k, what);
    }

    public int step(int k, int what) {
        return k < 0 || k >= journal.steps || what < 0 || what > 6 ? NO_SUCH : journal.stepPart(k, what);
    }

    public int shown(int what) {
        if (what < 0 || what > 2) {
            return NO_SUCH;
        }
        if (training.phase != PHASE_UP) {
            return NOT_NOW;
        }
        return bestWithin(roomOf(training.lanes, training.rate), what);
    }

    private static boolean isLane(int l) {
        return l >= 0 && l < LANES;
    }

    private static int greatest(int[] levels) {
        int most = 0;
        for (int next : levels) {
            most = Math.max(most, next);
        }
        return most;
    }

    private void endTraining() {
        training.stop();
        journal.clear();
    }

    // ---- on paper

    public int trained(int what) {
        if (what < 0 || what > 5) {
            return NO_SUCH;
        }
        int space = paper.finish(wiring);
        switch (what) {
            case 0: return paper.phase;
            case 1: return paper.lanes;
            case 2: return paper.rate;
            case 3: return paper.triesInAll;
            case 4: return paper.falls;
            default: return space;
        }
    }

    public int margin(int l) {
        if (!isLane(l)) {
            return NO_SUCH;
        }
        int now = paper.finish(wiring);
        paperWiring.copy(wiring);
        // a greater LOSS may come to more ROOM than a lesser one, so each is tried
        for (int loss = GREATEST_LOSS; loss > wiring.loss[l]; loss--) {
            paperWiring.loss[l] = loss;
            if (paper.finish(paperWiring) >= now) {
                return loss;
            }
        }
        return wiring.loss[l];
    }

    public int laid(int what) {
        if (what < 0 || what > 1) {
            return NO_SUCH;
        }
        int most = NONE;
        int order = NONE;
        paperWiring.copy(wiring);
        for (int abc = 0; abc < LANES * LANES * LANES; abc++) {
            int a = abc / (LANES * LANES);
            int b = abc / LANES % LANES;
            int c = abc % LANES;
            if (a == b || a == c || b == c) {
                continue;
            }
            int d = 6 - a - b - c;
            layLane(0, a);
            layLane(1, b);
            layLane(2, c);
            layLane(3, d);
            int space = paper.finish(paperWiring);
            if (space > most) {
                most = space;
                order = 1000 * a + 100 * b + 10 * c + d;
            }
        }
        return what == 0 ? most : order;
    }

    private void layLane(int place, int l) {
        if (isLane(place) && isLane(l)) {
            paperWiring.loss[place] = wiring.loss[l];
            paperWiring.slow[place] = wiring.slow[l];
        }
    }

    public int enough() {
        int now = paper.finish(wiring);
        paperWiring.copy(wiring);
        for (int rate = 0; rate < wiring.rate; rate++) {
            paperWiring.rate = rate;
            if (paper.finish(paperWiring) >= now) {
                return rate;
            }
        }
        return wiring.rate;
    }

    public int would(int what) {
        if (what < 0 || what > 1) {
            return NO_SUCH;
        }
        return bestWithin(paper.finish(wiring), what);
    }

    public int count(int what) {
        switch (what) {
            case 0: return screen.blocks;
            case 1: return tape.length;
            case 2: return deepest;
            case 3: return wiring.lanes;
            case 4: return wiring.rate;
            default: return NONE;
        }
    }

    /** A row of bytes, each 0 to 255, as long as a full tape at most. */
    private static final class Bytes {
        private final int[] cells = new int[TAPE_ROOM];
        private int length;

        void clear() {
            length = 0;
        }

        void addInt(int four) {
            for (int shift = 24; shift >= 0; shift -= 8) {
                if (length >= 0 && length < cells.length) {
                    cells[length] = four >> shift & 255;
                    length++;
                }
            }
        }

        int at(int i) {
            return i >= 0 && i < length && i < cells.length ? cells[i] : 0;
        }

        void take(Bytes from, int n) {
            length = Math.max(0, Math.min(n, from.length));
            System.arraycopy(from.cells, 0, cells, 0, length);
        }

        int sumOfBlock(int block) {
            int sum = 0;
            for (int i = 0; i < BLOCK; i++) {
                sum += at(block * BLOCK + i);
            }
            return sum & 255;
        }
    }

    /** The first FAULT of bytes, and its place. */
    private static final class Inspection {
        private int kind;
        private int place = NONE;

        void inspect(Bytes bytes) {
            kind = 0;
            place = NONE;
            int blocks = bytes.length / BLOCK;
            if (bytes.length % BLOCK != 0 || blocks < 1 || blocks > MOST_BLOCKS) {
                note(1, bytes.length);
                return;
            }
            for (int block = 0; block < blocks; block++) {
                inspectHead(bytes, block);
                if (bytes.sumOfBlock(block) != 0) {
                    note(3, block * BLOCK + 127);
                }
            }
            if (bytes.at(18) != 1) {
                note(4, 18);
            }
            if (bytes.at(126) != blocks - 1) {
                note(5, 126);
            }
            for (int block = 1; block < blocks; block++) {
                inspectExtension(bytes, block * BLOCK);
            }
        }

        /** The first one noted stays. */
        private void note(int newKind, int newPlace) {
            if (kind == 0) {
                kind = newKind;
                place = newPlace;
            }
        }

        private void inspectHead(Bytes bytes, int block) {
            if (block > 0) {
                if (bytes.at(block * BLOCK) != 2) {
                    note(2, block * BLOCK);
                }
                return;
            }
            for (int i = 0; i < 8; i++) {
                if (bytes.at(i) != headByte(i)) {
                    note(2, i);
                }
            }
        }

        private void inspectExtension(Bytes bytes, int start) {
            int end = bytes.at(start + 2);
            if (end != 0 && (end < 4 || end > 127)) {
                note(6, start + 2);
                return;
            }
            int head = 4;
            while (head < end) {
                int next = head + 1 + (bytes.at(start + head) & 31);
                if (next > end) {
                    note(7, start + head);
                }
                head = next;
            }
        }
    }

    private static int headByte(int i) {
        return i == 0 || i == 7 ? 0 : 255;
    }

    /** What the latest right BLOCKS tell. */
    private static final class Screen {
        private final Bytes bytes = new Bytes();
        private final Timing[] timings = new Timing[22];
        private final int[] codes = new int[3 * BLOCK];
        private final int[] letters = new int[NAME_ROOM];
        // as its five bytes tell it
        private final int[] range = new int[RANGE_PARTS];
        private int blocks;
        private int detailedCount;
        private int detailedOfBase;
        private int codeCount;
        private int nameLength;
        private int sounds;
        private int most;
        private boolean rangeTold;

        Screen() {
            for (int k = 0; k < timings.length; k++) {
                timings[k] = new Timing();
            }
        }

        void read(Bytes taken) {
            bytes.take(taken, taken.length);
            blocks = bytes.length / BLOCK;
            detailedCount = 0;
            codeCount = 0;
            nameLength = 0;
            sounds = 0;
            most = 0;
            rangeTold = false;
            for (int d = 0; d < DESCRIPTORS; d++) {
                readBaseDescriptor(DESCRIPTOR_START + d * DESCRIPTOR_SIZE);
            }
            detailedOfBase = detailedCount;
            for (int block = 1; block < blocks; block++) {
                int start = block * BLOCK;
                readData(start, bytes.at(start + 2));
                readDetailedFrom(start, bytes.at(start + 2));
            }
        }

        private void readBaseDescriptor(int start) {
            if (hasClock(start)) {
                addDetailed(start);
            } else if (bytes.at(start + 3) == NAME_TAG) {
                readName(start + 5);
            } else if (bytes.at(start + 3) == RANGE_TAG) {
                readRange(start + 5);
            }
        }

        private void readRange(int start) {
            rangeTold = true;
            for (int k = 0; k < range.length; k++) {
                range[k] = bytes.at(start + k);
            }
        }

        private boolean hasClock(int start) {
            return (bytes.at(start) | bytes.at(start + 1)) != 0;
        }

        private void addDetailed(int start) {
            if (detailedCount >= 0 && detailedCount < timings.length) {
                timings[detailedCount].read(bytes, start);
                detailedCount++;
            }
        }

        private void readName(int start) {
            nameLength = 0;
            for (int k = 0; k < NAME_ROOM; k++) {
                int letter = bytes.at(start + k);
                if (letter == 10 || letter == 0) {
                    break;
                }
                letters[k] = letter >= 32 && letter <= 126 ? letter : 63;
                nameLength = k + 1;
            }
        }

        private void readData(int start, int end) {
            int head = 4;
            while (head < end) {
                int kind = bytes.at(start + head) >> 5;
                int size = bytes.at(start + head) & 31;
                int first = start + head + 1;
                if (kind == 1) {
                    sounds += size / 3;
                } else if (kind == 2) {
                    readCodes(first, size);
                } else if (kind == 3 && size >= 7) {
                    readMost(first);
                }
                head += 1 + size;
            }
        }

        private void readCodes(int first, int size) {
            for (int i = 0; i < size; i++) {
                if (codeCount >= 0 && codeCount < codes.length) {
                    codes[codeCount] = bytes.at(first + i) & 127;
                    codeCount++;
                }
            }
        }

        private void readMost(int first) {
            if (bytes.at(first) == 3 && bytes.at(first + 1) == 12 && bytes.at(first + 2) == 0) {
                most = 5000 * bytes.at(first + 6);
            }
        }

        private void readDetailedFrom(int start, int end) {
            if (end == 0) {
                return;
            }
            for (int at = end; at + DESCRIPTOR_SIZE <= 127; at += DESCRIPTOR_SIZE) {
                if (!hasClock(start + at)) {
                    break;
                }
                addDetailed(start + at);
            }
        }

        Timing detailedAt(int k) {
            return k >= 0 && k < detailedCount && k < timings.length ? timings[k] : null;
        }

        int codeAt(int k) {
            return k >= 0 && k < codeCount && k < codes.length ? codes[k] : 0;
        }

        int nameByte(int k) {
            return k >= 0 && k < nameLength && k < letters.length ? letters[k] : 0;
        }

        int makerLetter(int k) {
            int maker = bytes.at(8) << 8 | bytes.at(9);
            return 64 + (maker >> 10 - 5 * k & 31);
        }

        int rangeByte(int part) {
            return part >= 0 && part < range.length ? range[part] : 0;
        }

        /** Parts 0 to 4: least and greatest HERTZ, least and greatest kHz of lines, greatest CLOCK. */
        int rangePart(int part) {
            if (!rangeTold) {
                return NONE;
            }
            return part == 4 ? rangeByte(part) * 10000 : rangeByte(part);
        }

        boolean isInRange(int hertz, int lines, int clock) {
            return !rangeTold || hertz >= range[0] && hertz <= range[1]
                && lines >= range[2] && lines <= range[3] && clock <= range[4] * 10000;
        }
    }

    /** A timing, all its parts in pixels, lines and kHz. */
    private static final class Timing {
        private int clock;
        private int h;
        private int hBlank;
        private int hFront;
        private int hSync;
        private int v;
        private int vBlank;
        private int vFront;
        private int vSync;
        private boolean interlaced;

        void read(Bytes bytes, int start) {
            clock = (bytes.at(start + 1) << 8 | bytes.at(start)) * 10;
            int hUpper = bytes.at(start + 4);
            h = bytes.at(start + 2) | hUpper >> 4 << 8;
            hBlank = bytes.at(start + 3) | (hUpper & 15) << 8;
            int vUpper = bytes.at(start + 7);
            v = bytes.at(start + 5) | vUpper >> 4 << 8;
            vBlank = bytes.at(start + 6) | (vUpper & 15) << 8;
            int vLower = bytes.at(start + 10);
            int upper = bytes.at(start + 11);
            hFront = bytes.at(start + 8) | (upper >> 6 & 3) << 8;
            hSync = bytes.at(start + 9) | (upper >> 4 & 3) << 8;
            vFront = vLower >> 4 | (upper >> 2 & 3) << 4;
            vSync = vLower & 15 | (upper & 3) << 4;
            interlaced = bytes.at(start + 17) >= 128;
        }

        int descriptorByte(int k) {
            switch (k) {
                case 0: return clock / 10 & 255;
                case 1: return clock / 10 >> 8 & 255;
                case 2: return h & 255;
                case 3: return hBlank & 255;
                case 4: return (h >> 8 & 15) << 4 | hBlank >> 8 & 15;
                case 5: return v & 255;
                case 6: return vBlank & 255;
                case 7: return (v >> 8 & 15) << 4 | vBlank >> 8 & 15;
                case 8: return hFront & 255;
                case 9: return hSync & 255;
                case 10: return (vFront & 15) << 4 | vSync & 15;
                case 11: return (hFront >> 8 & 3) << 6 | (hSync >> 8 & 3) << 4
                    | (vFront >> 4 & 3) << 2 | vSync >> 4 & 3;
                default: return 0;
            }
        }

        void draw(int kind, int width, int height, int hertz) {
            interlaced = false;
            v = height;
            hSync = 32;
            int lines = blankLines(height, hertz);
            if (kind == PLAIN) {
                h = width / 8 * 8;
                hBlank = 160;
                hFront = 48;
                vFront = 3;
                vSync = plainSync(h, height);
                vBlank = Math.max(lines, vSync + 9);
                clock = (int) (hertz * pixels() / 250000) * 250;
            } else {
                h = width;
                hBlank = 80;
                hFront = 8;
                vSync = 8;
                vBlank = Math.max(lines, 15);
                vFront = vBlank - 14;
                clock = (int) (hertz * pixels() / 1000);
            }
        }

        private static int blankLines(int height, int hertz) {
            long shared = 1000000L - 460L * hertz;
            return shared > 0 ? (int) (460L * height * hertz / shared) + 1 : 0;
        }

        private static int plainSync(int width, int height) {
            if (width == height * 4 / 24 * 8) {
                return 4;
            }
            if (width == height * 16 / 72 * 8) {
                return 5;
            }
            if (width == height * 16 / 80 * 8) {
                return 6;
            }
            return width == height * 5 / 32 * 8 || width == height * 15 / 72 * 8 ? 7 : 10;
        }

        void copy(Timing from) {
            clock = from.clock;
            h = from.h;
            hBlank = from.hBlank;
            hFront = from.hFront;
            hSync = from.hSync;
            v = from.v;
            vBlank = from.vBlank;
            vFront = from.vFront;
            vSync = from.vSync;
            interlaced = from.interlaced;
        }

        /** A timing of the table of codes: it tells wholes, no fronts and no syncs. */
        void setByTable(int row) {
            if (row < 0 || row + CODE_COLUMNS > CODE_ROWS.length) {
                return;
            }
            h = CODE_ROWS[row + 1];
            v = CODE_ROWS[row + 2];
            hBlank = CODE_ROWS[row + 3] - h;
            vBlank = CODE_ROWS[row + 4] - v;
            clock = CODE_ROWS[row + 5];
            hFront = 0;
            hSync = 0;
            vFront = 0;
            vSync = 0;
            interlaced = false;
        }

        int part(int what) {
            switch (what) {
                case 0: return clock;
                case 1: return h;
                case 2: return hBlank;
                case 3: return hFront;
                case 4: return hSync;
                case 5: return v;
                case 6: return vBlank;
                case 7: return vFront;
                case 8: return vSync;
                case 9: return interlaced ? 1 : 0;
                default: return isBroken() ? 1 : 0;
            }
        }

        boolean isBroken() {
            return h == 0 || v == 0 || hFront + hSync > hBlank || vFront + vSync > vBlank;
        }

        boolean fits() {
            return h <= 4095 && hBlank <= 4095 && v <= 4095 && vBlank <= 4095
                && hFront <= 1023 && hSync <= 1023 && vFront <= 63 && vSync <= 63 && clock <= 655359;
        }

        int wholeH() {
            return h + hBlank;
        }

        int wholeV() {
            return v + vBlank;
        }

        long pixels() {
            return (long) (h + hBlank) * (v + vBlank);
        }

        /** HERTZ to the nearest, half up. */
        int nearestHertz() {
            long all = pixels();
            return all > 0 ? (int) ((clock * 2000L + all) / (2 * all)) : 0;
        }

        int thousandths() {
            long all = pixels();
            return all > 0 ? (int) Math.min(clock * 1000000L / all, GREATEST_INT) : 0;
        }

        int lineRate() {
            int whole = wholeH();
            return whole > 0 ? clock / whole : 0;
        }
    }

    private static final class Mode {
        private final Timing timing = new Timing();
        private int hertz;
        private int source;
        private boolean preferred;

        boolean isLike(int h, int v, int asked) {
            return timing.h == h && timing.v == v && hertz == asked;
        }

        boolean comesAhead(Mode other) {
            if (preferred != other.preferred) {
                return preferred;
            }
            int area = timing.h * timing.v;
            int otherArea = other.timing.h * other.timing.v;
            return area > otherArea || area == otherArea && hertz > other.hertz;
        }
    }

    /** The MODES that a screen leaves, best first. */
    private static final class ModeList {
        private final Mode[] list = new Mode[MOST_MODES];
        private final int[] leftOut = new int[7];
        private final Timing next = new Timing();
        private int nextHertz;
        private int size;

        ModeList() {
            for (int i = 0; i < list.length; i++) {
                list[i] = new Mode();
            }
        }

        Mode at(int i) {
            return i >= 0 && i < size && i < list.length ? list[i] : null;
        }

        int leftOutBy(int why) {
            return why >= 0 && why < leftOut.length ? leftOut[why] : 0;
        }

        int indexOf(int h, int v, int hertz) {
            for (int i = 0; i < size && i < list.length; i++) {
                if (list[i].isLike(h, v, hertz)) {
                    return i;
                }
            }
            return NONE;
        }

        void collect(Screen screen) {
            size = 0;
            Arrays.fill(leftOut, 0);
            boolean firstIsDetailed = screen.hasClock(DESCRIPTOR_START);
            for (int k = 0; k < screen.detailedCount; k++) {
                Timing told = screen.detailedAt(k);
                if (told != null) {
                    next.copy(told);
                    offer(screen, k < screen.detailedOfBase ? BY_BASE : BY_EXTENSIONS, k == 0 && firstIsDetailed);
                }
            }
            for (int k = 0; k < screen.codeCount; k++) {
                offerCode(screen, screen.codeAt(k));
            }
            for (int at = 38; at < DESCRIPTOR_START; at += 2) {
                offerStandard(screen, screen.bytes.at(at), screen.bytes.at(at + 1));
            }
            for (int row = 0; row + ESTABLISHED_COLUMNS <= ESTABLISHED_ROWS.length; row += ESTABLISHED_COLUMNS) {
                if ((screen.bytes.at(ESTABLISHED_ROWS[row]) >> ESTABLISHED_ROWS[row + 1] & 1) != 0) {
                    next.draw(PLAIN, ESTABLISHED_ROWS[row + 2], ESTABLISHED_ROWS[row + 3], ESTABLISHED_ROWS[row + 4]);
                    offer(screen, BY_ESTABLISHED, false);
                }
            }
        }

        private void offerCode(Screen screen, int code) {
            for (int row = 0; row + CODE_COLUMNS <= CODE_ROWS.length; row += CODE_COLUMNS) {
                if (CODE_ROWS[row] == code) {
                    next.setByTable(row);
                    offer(screen, BY_CODES, false);
                    return;
                }
            }
            leftOut[UNKNOWN]++;
        }

        private void offerStandard(Screen screen, int first, int second) {
            if (first == 0 || first == 1 && second == 1) {
                return;
            }
            int h = 8 * (first + 31);
            next.draw(PLAIN, h, standardHeight(h, second >> 6), 60 + (second & 63));
            offer(screen, BY_STANDARD, false);
        }

        private static int standardHeight(int h, int shape) {
            switch (shape) {
                case 0: return h * 10 / 16;
                case 1: return h * 3 / 4;
                case 2: return h * 4 / 5;
                default: return h * 9 / 16;
            }
        }

        private void offer(Screen screen, int source, boolean preferred) {
            nextHertz = next.nearestHertz();
            int why = whyLeftOut(screen);
            if (why >= 0 && why < leftOut.length) {
                leftOut[why]++;
            } else if (size >= 0 && size < list.length) {
                insert(source, preferred);
            }
        }

        private int whyLeftOut(Screen screen) {
            if (next.isBroken()) {
                return BROKEN;
            }
            if (next.interlaced) {
                return INTERLACED;
            }
            if (!screen.isInRange(nextHertz, next.lineRate(), next.clock)) {
                return OUT_OF_RANGE;
            }
            if (screen.most != 0 && next.clock > screen.most) {
                return ABOVE_MOST;
            }
            if (indexOf(next.h, next.v, nextHertz) != NONE) {
                return FOUND_AHEAD;
            }
            return size >= MOST_MODES ? TOO_LATE : NONE;
        }

        /** Puts the next one behind all that come ahead of it or are like it. */
        private void insert(int source, boolean preferred) {
            if (size < 0 || size >= list.length) {
                return;
            }
            Mode fresh = list[size];
            fresh.timing.copy(next);
            fresh.hertz = nextHertz;
            fresh.source = source;
            fresh.preferred = preferred;
            int place = size;
            while (place > 0 && fresh.comesAhead(list[place - 1])) {
                list[place] = list[place - 1];
                place--;
            }
            list[place] = fresh;
            size++;
        }
    }

    /** A BASE of the best MODES, made anew whenever BLOCKS are read. */
    private static final class Forge {
        private final int[] cells = new int[BLOCK];
        private boolean fitting;

        int at(int i) {
            return i >= 0 && i < cells.length ? cells[i] : 0;
        }

        void make(Screen screen, ModeList modes) {
            Arrays.fill(cells, 0);
            fitting = true;
            for (int i = 0; i < 8; i++) {
                cells[i] = headByte(i);
            }
            cells[8] = screen.bytes.at(8);
            cells[9] = screen.bytes.at(9);
            cells[18] = 1;
            cells[21] = screen.bytes.at(21);
            cells[22] = screen.bytes.at(22);
            for (int i = 0; i < DESCRIPTORS; i++) {
                Mode next = modes.at(i);
                if (next != null) {
                    putTiming(i, next.timing);
                }
            }
            putName(modes.size, screen);
            putRange(modes.size + 1, screen);
            putSum();
        }

        private void put(int place, int k, int value) {
            int i = DESCRIPTOR_START + place * DESCRIPTOR_SIZE + k;
            if (i >= 0 && i < cells.length) {
                cells[i] = value;
            }
        }

        private void putTiming(int place, Timing timing) {
            if (!timing.fits()) {
                fitting = false;
            }
            for (int k = 0; k < DESCRIPTOR_SIZE; k++) {
                put(place, k, timing.descriptorByte(k));
            }
        }

        private void putName(int place, Screen screen) {
            if (place >= DESCRIPTORS || screen.nameLength == 0) {
                return;
            }
            put(place, 3, NAME_TAG);
            for (int k = 0; k < NAME_ROOM; k++) {
                if (k < screen.nameLength) {
                    put(place, 5 + k, screen.nameByte(k));
                } else {
                    put(place, 5 + k, k == screen.nameLength ? 10 : 32);
                }
            }
        }

        private void putRange(int place, Screen screen) {
            if (place >= DESCRIPTORS || !screen.rangeTold) {
                return;
            }
            put(place, 3, RANGE_TAG);
            for (int k = 0; k < RANGE_PARTS; k++) {
                put(place, 5 + k, screen.rangeByte(k));
            }
        }

        private void putSum() {
            int sum = 0;
            for (int next : cells) {
                sum += next;
            }
            cells[127] = -sum & 255;
        }
    }

    /** What lanes lose, how slow they are, and the WIRE. */
    private static final class Wiring {
        private final int[] loss = new int[LANES];
        private final int[] slow = new int[LANES];
        private int lanes = 4;
        private int rate = 2;

        void copy(Wiring from) {
            System.arraycopy(from.loss, 0, loss, 0, LANES);
            System.arraycopy(from.slow, 0, slow, 0, LANES);
            lanes = from.lanes;
            rate = from.rate;
        }
    }

    /** A link while it is trained. Sets of lanes are bits, lane 0 the lowest. */
    private static final class Training {
        private final int[] swing = new int[LANES];
        private final int[] emphasis = new int[LANES];
        private int phase;
        private int lanes;
        private int rate;
        private int clocked;
        private int even;
        private int clockTries;
        private int evenTries;
        private int triesSinceSwing;
        private int triesInAll;
        private int falls;
        // what the latest TRY found, which a FALL doesn't clear
        private int found;

        void stop() {
            phase = 0;
            lanes = 0;
            rate = 0;
            triesInAll = 0;
            falls = 0;
            toFoot();
        }

        void start(Wiring wiring) {
            stop();
            phase = PHASE_CLOCK;
            lanes = wiring.lanes;
            rate = wiring.rate;
        }

        boolean isRunning() {
            return phase == PHASE_CLOCK || phase == PHASE_EVEN;
        }

        int triesOfPhase() {
            if (phase == PHASE_CLOCK) {
                return clockTries;
            }
            return phase == PHASE_EVEN ? evenTries : 0;
        }

        /** Trains anew to the end: ROOM, 0 if it is DOWN. */
        int finish(Wiring wiring) {
            start(wiring);
            for (int i = 0; i < MOST_TRIES && isRunning(); i++) {
                attempt(wiring);
            }
            return phase == PHASE_UP ? roomOf(lanes, rate) : 0;
        }

        /** One TRY: 0 it goes on, 1 to 6 it falls by that, 7 all are clocked, 8 up. */
        int attempt(Wiring wiring) {
            triesInAll++;
            int outcome = phase == PHASE_CLOCK ? attemptClock(wiring) : attemptEven(wiring);
            if (outcome >= 1 && outcome <= 6) {
                drop(wiring);
            }
            return outcome;
        }

        private int allLanes() {
            return (1 << lanes) - 1;
        }

        private int attemptClock(Wiring wiring) {
            clockTries++;
            triesSinceSwing++;
            int wanting = wantSwing(wiring);
            clocked = fastLanes(wiring, clockTries) & ~wanting;
            found = clocked;
            if (clocked == allLanes()) {
                phase = PHASE_EVEN;
                return ALL_CLOCKED;
            }
            if (isOneAtTop(swing, wanting)) {
                return 1;
            }
            if (clockTries >= 10) {
                return 2;
            }
            if (triesSinceSwing >= 7) {
                return 3;
            }
            if (wanting != 0) {
                raise(swing, wanting);
                triesSinceSwing = 0;
            }
            return 0;
        }

        private int attemptEven(Wiring wiring) {
            evenTries++;
            found = 0;
            even = 0;
            if (wantSwing(wiring) != 0) {
                return 4;
            }
            int wanting = wantEmphasis(wiring);
            even = fastLanes(wiring, evenTries + 2) & ~wanting;
            found = even;
            if (even == allLanes()) {
                phase = PHASE_UP;
                return WENT_UP;
            }
            if (evenTries >= 6) {
                return 5;
            }
            if (isOneAtTop(emphasis, wanting)) {
                return 6;
            }
            raise(emphasis, wanting);
            easeSwing(wanting);
            return 0;
        }

        private int wantSwing(Wiring wiring) {
            int set = 0;
            for (int l = 0; l < LANES; l++) {
                if (l < lanes && 5 * swing[l] + 14 < wiring.loss[l] + 2 * rate) {
                    set |= 1 << l;
                }
            }
            return set;
        }

        private int wantEmphasis(Wiring wiring) {
            int set = 0;
            for (int l = 0; l < LANES; l++) {
                if (l < lanes && 3 * emphasis[l] + 8 < wiring.loss[l] / 2 + 5 * rate) {
                    set |= 1 << l;
                }
            }
            return set;
        }

        private int fastLanes(Wiring wiring, int tried) {
            int set = 0;
            for (int l = 0; l < LANES; l++) {
                if (l < lanes && tried > wiring.slow[l]) {
                    set |= 1 << l;
                }
            }
            return set;
        }

        private static boolean isOneAtTop(int[] ladder, int set) {
            for (int l = 0; l < ladder.length; l++) {
                if ((set >> l & 1) != 0 && ladder[l] >= LADDER_TOP) {
                    return true;
                }
            }
            return false;
        }

        private static void raise(int[] ladder, int set) {
            for (int l = 0; l < ladder.length; l++) {
                ladder[l] += set >> l & 1;
            }
        }

        private void easeSwing(int set) {
            for (int l = 0; l < LANES; l++) {
                if ((set >> l & 1) != 0 && swing[l] + emphasis[l] > LADDER_TOP) {
                    swing[l]--;
                }
            }
        }

        private void drop(Wiring wiring) {
            falls++;
            if (lanes <= 1 && rate <= 0) {
                phase = PHASE_DOWN;
            } else if (phase == PHASE_CLOCK) {
                dropFromClock(wiring);
            } else {
                dropFromEven();
            }
            toFoot();
        }

        private void dropFromClock(Wiring wiring) {
            if (rate > 0) {
                rate--;
            } else {
                lanes /= 2;
                rate = wiring.rate;
            }
        }

        private void dropFromEven() {
            phase = PHASE_CLOCK;
            if (lanes > 1) {
                lanes /= 2;
            } else {
                rate--;
            }
        }

        private void toFoot() {
            Arrays.fill(swing, 0);
            Arrays.fill(emphasis, 0);
            clocked = 0;
            even = 0;
            clockTries = 0;
            evenTries = 0;
            triesSinceSwing = 0;
        }
    }

    /** Every TRY since TRAINING BEGAN, and which of them were FALLS. */
    private static final class Journal {
        // the seven parts of a step, and which TRY of its phase it was
        private static final int COLUMNS = 8;
        private final int[] rows = new int[MOST_TRIES * COLUMNS];
        private final int[] fallSteps = new int[MOST_FALLS];
        private int steps;
        private int falls;

        void clear() {
            steps = 0;
            falls = 0;
        }

        /** Writes down how it is ahead of a TRY. */
        void open(Training training) {
            put(0, training.phase);
            put(1, training.lanes);
            put(2, training.rate);
            put(3, digits(training.swing));
            put(4, digits(training.emphasis));
            put(7, training.triesOfPhase() + 1);
        }

        void close(int found, int outcome) {
            put(5, found);
            put(6, outcome);
            if (outcome >= 1 && outcome <= 6 && falls >= 0 && falls < fallSteps.length) {
                fallSteps[falls] = steps;
                falls++;
            }
            if (steps < MOST_TRIES) {
                steps++;
            }
        }

        private void put(int column, int value) {
            int i = steps * COLUMNS + column;
            if (i >= 0 && i < rows.length) {
                rows[i] = value;
            }
        }

        private static int digits(int[] ladder) {
            int number = 0;
            for (int next : ladder) {
                number = number * 10 + next;
            }
            return number;
        }

        int stepPart(int k, int what) {
            int i = k * COLUMNS + what;
            return i >= 0 && i < rows.length ? rows[i] : 0;
        }

        int fallPart(int k, int what) {
            if (k < 0 || k >= fallSteps.length) {
                return 0;
            }
            switch (what) {
                case 0: return stepPart(fallSteps[k], 6);
                case 1: return stepPart(fallSteps[k], 1);
                case 2: return stepPart(fallSteps[k], 2);
                default: return stepPart(fallSteps[k], 7);
            }
        }
    }
}
