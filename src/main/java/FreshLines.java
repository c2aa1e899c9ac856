import java.util.NoSuchElementException;

/** Words kept outside a chip, which prove themselves fresh by a tree of counters. */
public final class FreshLines {
    public static final int NONE = -1;

    private static final int TAPE_ROOM = 600;
    private static final int WORK_ROOM = 150;
    private static final int BYTES_FED = 20;

    private static final int MOST_LINES = 64;
    private static final int MOST_NODES = 62;
    private static final int MOST_DEPTH = 5;
    private static final int MOST_HOLD = 12;
    private static final int MOST_MAJOR = 63;
    private static final int MOST_EPOCH = 14;
    private static final int MOST_VERSION = 1023;
    private static final int MOST_CLAUSES = 60;
    private static final int MOST_OPEN = 6;
    private static final int MOST_ROUNDS = 60;
    private static final int STEP_NUMBERS = 3;
    private static final int MOST_STEPS = 200;
    private static final int MOST_TURNS = 1_000_000;
    private static final int MOST_COPIES = 8;
    private static final int MOST_SHOTS = 3;
    private static final int MOST_REEL = 24;
    private static final int MOST_TOUR = 5;
    /** More than any TOUR fetches. */
    private static final int NO_TOUR = 1_000_000;
    private static final int MOST_AFTER = 99;
    private static final int MOST_WORD = 99_999_999;
    private static final int MOST_KEY = 999_999_999;

    private static final int LINE_BYTES = 4;
    /** A MAJOR and four minors; those that a smaller FAN lacks stay 0 and so weigh nothing. */
    private static final int ROW = 5;
    private static final int PRIME = 1_000_003;
    private static final int MARK_STEP = 1024;
    private static final int EPOCH_STEP = 63_488;
    private static final int WEIGHTS = 11;
    private static final int LINE_MARK_WEIGHT = 4;
    private static final int NODE_FIRST_WEIGHT = 5;
    private static final int NODE_MARK_WEIGHT = 10;

    private static final int FAULT_SIGN = 1;
    private static final int FAULT_NUMBER = 2;
    private static final int FAULT_MANY = 3;

    /** How a STEP ends: DONE, the DEPTH (1 to 6) of what was not FRESH, or one of the others. */
    private static final int DONE = 0;
    private static final int WORN = 7;
    private static final int REFUSED = 8;

    private static final int WRITE = 0;
    private static final int READ = 1;
    private static final int FLUSH = 2;
    private static final int LOSS = 3;
    private static final int MEND = 4;
    private static final int FLIP = 5;
    private static final int BEND = 6;
    private static final int COPY = 7;
    private static final int PICK = 8;
    private static final int LAY = 9;
    private static final int GRAFT = 10;
    private static final int SHOOT = 11;
    private static final int REPLAY = 12;
    private static final int AGAIN = 13;
    private static final int CLOSE = 14;

    private static final int MISSING = 0;
    private static final int ILLEGAL = 1;
    private static final int NULL = 2;
    private static final int OUT_OF_BOUNDS = 3;
    private static final int WRONG_KIND = 4;
    private static final int REASONS = 5;

    private final Text text = new Text();
    private final Plan plan = new Plan();
    private final Shape shape = new Shape();
    private final Codes codes = new Codes();
    private final Memory now = new Memory(shape, codes);
    /** What is tried out, or what there was ahead of a STEP, lies here; a TOUR needs one a stop. */
    private final Memory[] trials = new Memory[MOST_TOUR + 1];
    private final Outside[] shots = new Outside[MOST_SHOTS];
    private final Album copies = new Album();
    private final Program program = new Program();
    private final Report report = new Report();
    private final Reel latest = new Reel();
    private final int[] tourLines = new int[MOST_TOUR];
    private final int[] tourPicks = new int[MOST_TOUR];
    private final int[] tourRow = new int[MOST_TOUR];
    private final int[] needs = new int[MOST_LINES];
    private final int[] refusals = new int[REASONS];
    private int shotCount;

    public FreshLines() {
        for (int i = 0; i < trials.length; i++) {
            trials[i] = new Memory(shape, codes);
        }
        for (int i = 0; i < shots.length; i++) {
            shots[i] = new Outside();
        }
        plan.clear();
        beginAnew();
    }

    public int feed(int a, int b, int c, int d, int e) {
        if (text.count + BYTES_FED > TAPE_ROOM) {
            return NONE;
        }
        text.append(a);
        text.append(b);
        text.append(c);
        text.append(d);
        text.append(e);
        return text.count;
    }

    public int machine(int n) throws IllegalArgumentException {
        needThat(n >= 0 && n <= text.count);
        text.open(n);
        boolean good = plan.readFrom(text);
        text.count = 0;
        if (!good) {
            return text.fault - 10;
        }
        beginAnew();
        return shape.lines;
    }

    public int work(int n) throws IllegalArgumentException {
        needThat(n >= 0 && n <= text.count && n <= WORK_ROOM);
        text.open(n);
        boolean good = program.readFrom(text, shape);
        text.count = 0;
        if (!good) {
            return text.fault - 10;
        }
        report.clear();
        program.rewind();
        int done = 0;
        for (int turn = 0; turn < MOST_STEPS && program.advance(); turn++) {
            int at = program.at * STEP_NUMBERS;
            int outcome = doStep(program.kinds[program.at], program.numbers[at], program.numbers[at + 1], program.numbers[at + 2]);
            report.add(outcome);
            if (outcome == DONE) {
                done++;
            }
        }
        return done;
    }

    public int fault() {
        return text.place;
    }

    public int told(int what) throws IllegalArgumentException {
        switch (what) {
            case 0: return shape.fan;
            case 1: return shape.depth;
            case 2: return shape.hold;
            case 3: return shape.bits;
            case 4: return shape.lines;
            case 5: return shape.nodes;
            case 6: return now.epoch;
            case 7: return now.tally;
            case 8: return now.heldCount;
            case 9: return now.power ? 1 : 0;
            case 10: return report.refused;
            case 11: return report.stale;
            case 12: return report.worn;
            case 13: return report.staleDepth;
            case 14: return shotCount;
            case 15: return copies.count;
            default:
                needThat(false);
                return NONE;
        }
    }

    public int root(int what) throws IllegalArgumentException {
        needThat(what >= 0 && what <= shape.fan);
        return now.copies[what];
    }

    public int line(int line, int what) throws NoSuchElementException, IllegalArgumentException {
        needLine(line);
        needThat(what >= 0 && what <= 6);
        if (what < LINE_BYTES) {
            return now.outside.bytes[line * LINE_BYTES + what];
        }
        if (what == 4) {
            return now.outside.lineSums[line];
        }
        int version = now.versionOf(shape.nodes + line);
        if (what == 5) {
            return version;
        }
        return now.lineIsRight(line, version) ? 1 : 0;
    }

    public long word(int line) throws NoSuchElementException {
        needLine(line);
        if (!now.power) {
            return -2;
        }
        if (now.firstNotRight(line) != 0) {
            return -1;
        }
        return now.wordBy(line, now.versionOf(shape.nodes + line)) & 0xFFFFFFFFL;
    }

    public boolean sound(int line) throws NoSuchElementException {
        needLine(line);
        return now.firstNotRight(line) == 0;
    }

    public int where(int line) throws NoSuchElementException {
        needLine(line);
        return now.firstNotRight(line);
    }

    public int found(int line) throws NoSuchElementException {
        needLine(line);
        return now.findVersion(line);
    }

    public int node(int node, int what) throws NoSuchElementException, IllegalArgumentException {
        needNode(node);
        switch (what) {
            case 0: return now.outside.rows[node * ROW];
            case 1: return now.outside.nodeSums[node];
            case 2: return shape.depthOf[node];
            case 3: return shape.aboveOf[node];
            case 4: return now.isHeld(node) ? 1 : 0;
            case 5: return now.isDirty(node) ? 1 : 0;
            case 6: return now.versionOf(node);
            case 7: return now.nodeIsRight(node, now.versionOf(node)) ? 1 : 0;
            default:
                needThat(false);
                return NONE;
        }
    }

    public int minor(int node, int k) throws NoSuchElementException, IndexOutOfBoundsException {
        needNode(node);
        needWithin(k >= 0 && k < shape.fan);
        return now.outside.rows[node * ROW + 1 + k];
    }

    public int held(int node, int k)
            throws NoSuchElementException, NullPointerException, IndexOutOfBoundsException {
        needNode(node);
        if (!now.isHeld(node)) {
            refusals[NULL]++;
            throw new NullPointerException("the node is not held");
        }
        needWithin(k >= 0 && k <= shape.fan);
        return now.copies[(node + 1) * ROW + k];
    }

    public int used(int k) throws IllegalArgumentException {
        needThat(k >= 0);
        return k < now.heldCount ? now.order[k] : NONE;
    }

    public int above(int line, int depth) throws NoSuchElementException, IllegalArgumentException {
        needLine(line);
        needThat(depth >= 1 && depth <= shape.depth);
        return shape.nodeAt(line, depth);
    }

    public long under(int node) throws NoSuchElementException {
        needNode(node);
        long bits = 0;
        for (int line = 0; line < shape.lines; line++) {
            if (shape.isOnWay(node, line)) {
                bits |= 1L << line;
            }
        }
        return bits;
    }

    public long dirty() {
        return now.dirtyBits;
    }

    public int fetched(int depth) throws IllegalArgumentException {
        needThat(depth >= 1 && depth <= shape.depth + 1);
        return now.fetches[depth];
    }

    public int stored(int depth) throws IllegalArgumentException {
        needThat(depth >= 1 && depth <= shape.depth + 1);
        return now.stores[depth];
    }

    public int album(int k, int what) throws NoSuchElementException, IllegalArgumentException {
        needPresent(k >= 0 && k < copies.count);
        needThat(what >= 0 && what <= 2);
        if (what == 0) {
            return copies.ofNode[k] ? 1 : 0;
        }
        return what == 1 ? copies.which[k] : copies.sums[k];
    }

    public int kept(int k, int i)
            throws NoSuchElementException, ClassCastException, IndexOutOfBoundsException {
        needPresent(k >= 0 && k < copies.count);
        if (copies.ofNode[k]) {
            refusals[WRONG_KIND]++;
            throw new ClassCastException("the copy is of a node");
        }
        needWithin(i >= 0 && i < LINE_BYTES);
        return copies.numbers[k * ROW + i];
    }

    public boolean laid(int k, int place) throws NoSuchElementException {
        needPresent(k >= 0 && k < copies.count);
        int sum;
        if (copies.ofNode[k]) {
            needNode(place);
            sum = codes.nodeSum(copies.numbers, k * ROW, now.nodeMark(place, now.versionOf(place)));
        } else {
            needLine(place);
            sum = codes.lineSum(copies.numbers, k * ROW, lineMark(place, now.versionOf(shape.nodes + place)));
        }
        return sum == copies.sums[k];
    }

    public int mends() {
        return now.power ? 1 : now.barToMend();
    }

    public int stale() {
        int many = 0;
        for (int leaf = shape.firstLeaf; leaf < shape.nodes; leaf++) {
            if (leafIsStale(leaf)) {
                many++;
            }
        }
        return many;
    }

    public int left(int line) throws NoSuchElementException {
        needLine(line);
        return minorsLeft(line);
    }

    public int wear(int line) throws NoSuchElementException {
        needLine(line);
        int major = now.versionOf(shape.nodes + line) >> shape.bits;
        return minorsLeft(line) + (MOST_MAJOR - major) * shape.limit;
    }

    public int costs(int line, int kind, int what) throws NoSuchElementException, IllegalArgumentException {
        needLine(line);
        needThat(kind >= 0 && kind <= 1 && what >= 0 && what <= 2);
        Memory trial = trials[0];
        trial.takeFrom(now);
        int outcome = kind == 0 ? trial.readLine(line) : trial.writeLine(line, 0);
        return outcome == DONE ? spent(trial, what) : NONE;
    }

    public int flushes(int what) throws IllegalArgumentException {
        needThat(what >= 0 && what <= 2);
        Memory trial = trials[0];
        trial.takeFrom(now);
        return trial.flushAll() == DONE ? spent(trial, what) : NONE;
    }

    public int after(int line, int many, int what) throws NoSuchElementException, IllegalArgumentException {
        needLine(line);
        needThat(many >= 1 && many <= MOST_AFTER && what >= 0 && what <= 2);
        Memory trial = trials[0];
        trial.takeFrom(now);
        int done = 0;
        int tally = trial.tally;
        int stores = trial.countStores();
        // A REFUSED write changes nothing, so all that follow it are REFUSED too.
        while (done < many && trial.writeLine(line, 0) == DONE) {
            done++;
            tally = trial.tally;
            stores = trial.countStores();
        }
        if (what == 0) {
            return done;
        }
        return what == 1 ? tally : stores - now.countStores();
    }

    public int losses(int what) throws IllegalArgumentException {
        needThat(what >= 0 && what <= 1);
        int bar = now.barToMend();
        if (what == 0) {
            return bar;
        }
        return bar == 0 ? now.countMended() : 0;
    }

    public int replayed(int shot, int what) throws NoSuchElementException, IllegalArgumentException {
        needPresent(shot >= 0 && shot < shotCount);
        needThat(what >= 0 && what <= 1);
        Memory trial = trials[0];
        trial.takeFrom(now);
        trial.outside.takeFrom(shots[shot]);
        if (what == 1) {
            return trial.barToMend();
        }
        int many = 0;
        for (int line = 0; line < shape.lines; line++) {
            if (trial.firstNotRight(line) == 0) {
                many++;
            }
        }
        return many;
    }

    public int forgeries(int line) throws NoSuchElementException {
        needLine(line);
        int at = line * LINE_BYTES;
        int told = now.outside.lineSums[line];
        int sum = codes.lineSum(now.outside.bytes, at, lineMark(line, now.versionOf(shape.nodes + line)));
        int ways = 0;
        for (int i = 0; i < LINE_BYTES; i++) {
            int old = now.outside.bytes[at + i];
            for (int other = 0; other < 256; other++) {
                // PRIME more changes no SUM, and keeps all above 0.
                long moved = sum + (long) codes.weights[i] * (PRIME + other - old);
                if (other != old && moved % PRIME == told) {
                    ways++;
                }
            }
        }
        return ways;
    }

    public int splices() {
        for (int line = 0; line < shape.lines; line++) {
            needs[line] = codes.lineLack(now.outside.bytes, line * LINE_BYTES, now.outside.lineSums[line]);
        }
        int pairs = 0;
        for (int b = 0; b < shape.lines; b++) {
            int share = codes.lineMarkShare(lineMark(b, now.versionOf(shape.nodes + b)));
            for (int a = 0; a < shape.lines; a++) {
                if (a != b && needs[a] == share) {
                    pairs++;
                }
            }
        }
        return pairs;
    }

    public int tour(long lines) throws IllegalArgumentException {
        needTour(lines);
        return findTour(lines);
    }

    public int stop(long lines, int k) throws IllegalArgumentException {
        needTour(lines);
        needThat(k >= 0);
        if (k >= Long.bitCount(lines) || k >= MOST_TOUR || findTour(lines) == NONE) {
            return NONE;
        }
        return tourRow[k];
    }

    public int reel(int k) throws IllegalArgumentException {
        needThat(k >= 0);
        return k < latest.count ? latest.lines[k] : NONE;
    }

    public int reelBy(int hold, int what) throws IllegalArgumentException {
        needThat(hold >= shape.depth && hold <= MOST_HOLD && what >= 0 && what <= 1);
        int nodes = playReel(hold);
        return what == 0 ? nodes : trials[0].went;
    }

    public int least(int n) throws IllegalArgumentException {
        needThat(n >= 0);
        for (int hold = shape.depth; hold <= MOST_HOLD; hold++) {
            if (playReel(hold) <= n) {
                return hold;
            }
        }
        return NONE;
    }

    public int pad(int line, int version) throws NoSuchElementException, IllegalArgumentException {
        needLine(line);
        needThat(version >= 0 && version <= MOST_VERSION);
        return codes.padBy(lineMark(line, version));
    }

    public int weight(int k) throws IllegalArgumentException {
        needThat(k >= 0 && k < WEIGHTS);
        return codes.weights[k];
    }

    public int box(int place) throws IllegalArgumentException {
        needThat(place >= 0 && place < 256);
        return codes.box[place];
    }

    public long print() {
        Outside outside = now.outside;
        long print = 0;
        for (int line = 0; line < shape.lines; line++) {
            for (int i = 0; i < LINE_BYTES; i++) {
                print = 31 * print + outside.bytes[line * LINE_BYTES + i];
            }
            print = 31 * print + outside.lineSums[line];
        }
        for (int node = 0; node < shape.nodes; node++) {
            for (int j = 0; j <= shape.fan; j++) {
                print = 31 * print + outside.rows[node * ROW + j];
            }
            print = 31 * print + outside.nodeSums[node];
        }
        return print;
    }

    public int status(int what) {
        return what >= 0 && what < REASONS ? refusals[what] : NONE;
    }

    public int count() {
        return text.count;
    }

    private void needThat(boolean legal) {
        if (!legal) {
            refusals[ILLEGAL]++;
            throw new IllegalArgumentException("no such number");
        }
    }

    private void needPresent(boolean present) {
        if (!present) {
            refusals[MISSING]++;
            throw new NoSuchElementException("there is none of that number");
        }
    }

    private void needLine(int line) {
        needPresent(line >= 0 && line < shape.lines);
    }

    private void needNode(int node) {
        needPresent(node >= 0 && node < shape.nodes);
    }

    private void needWithin(boolean within) {
        if (!within) {
            refusals[OUT_OF_BOUNDS]++;
            throw new IndexOutOfBoundsException("no such place");
        }
    }

    private void needTour(long lines) {
        long known = shape.lines >= MOST_LINES ? -1L : (1L << shape.lines) - 1;
        needThat((lines & ~known) == 0 && Long.bitCount(lines) <= MOST_TOUR);
    }

    private void beginAnew() {
        shape.takeFrom(plan);
        codes.takeKey(plan.key);
        now.begin(plan.words);
        copies.count = 0;
        shotCount = 0;
        latest.count = 0;
        report.clear();
    }

    private int doStep(int kind, int a, int b, int c) {
        if (kind != WRITE && kind != READ && kind != FLUSH) {
            return doOtherStep(kind, a, b, c);
        }
        Memory before = trials[0];
        before.takeFrom(now);
        int outcome;
        if (kind == WRITE) {
            outcome = now.writeLine(a, b);
        } else {
            outcome = kind == READ ? now.readLine(a) : now.flushAll();
        }
        if (outcome != DONE) {
            now.takeFrom(before);
        } else if (kind != FLUSH) {
            latest.add(a);
        }
        return outcome;
    }

    private int doOtherStep(int kind, int a, int b, int c) {
        switch (kind) {
            case LOSS: return now.losePower();
            case MEND: return now.power || now.barToMend() != 0 ? REFUSED : now.mendAll();
            case FLIP:
                now.outside.bytes[a * LINE_BYTES + b] ^= c;
                return DONE;
            case BEND:
                now.outside.bendNode(a, b, c, shape);
                return DONE;
            case COPY: return copies.take(now.outside, false, a);
            case PICK: return copies.take(now.outside, true, a);
            case LAY: return copies.lay(a, now.outside, false, b);
            case GRAFT: return copies.lay(a, now.outside, true, b);
            case SHOOT: return shoot();
            default: return replay(a);
        }
    }

    private int shoot() {
        if (shotCount >= MOST_SHOTS) {
            return REFUSED;
        }
        shots[shotCount].takeFrom(now.outside);
        shotCount++;
        return DONE;
    }

    private int replay(int shot) {
        if (shot < 0 || shot >= shotCount) {
            return REFUSED;
        }
        now.outside.takeFrom(shots[shot]);
        return DONE;
    }

    private boolean leafIsStale(int leaf) {
        int row = leaf * ROW;
        int firstLine = shape.fan * (leaf + 1) - shape.nodes;
        for (int k = 0; k < shape.fan; k++) {
            int version = shape.limit * now.outside.rows[row] + now.outside.rows[row + 1 + k];
            if (now.findVersion(firstLine + k) != version) {
                return true;
            }
        }
        return false;
    }

    private int minorsLeft(int line) {
        return shape.limit - 1 - (now.versionOf(shape.nodes + line) & (shape.limit - 1));
    }

    private int spent(Memory trial, int what) {
        if (what == 0) {
            return trial.countFetches() - now.countFetches();
        }
        return what == 1 ? trial.countStores() - now.countStores() : trial.went - now.went;
    }

    /** How many NODES were FETCHED by the REEL; how many went is told by trial 0. */
    private int playReel(int hold) {
        Memory trial = trials[0];
        trial.beginTrusting(hold);
        for (int k = 0; k < latest.count; k++) {
            trial.readLine(latest.lines[k]);
        }
        return trial.countFetches() - trial.fetches[shape.depth + 1];
    }

    /** Tries the rows in order, and leaves those that can't become better; the best is in tourRow. */
    private int findTour(long lines) {
        int many = listTourLines(lines);
        if (many == 0) {
            return 0;
        }
        trials[0].takeFrom(now);
        int base = now.countFetches();
        int best = NO_TOUR;
        int taken = 0;
        int level = 0;
        tourPicks[0] = NONE;
        for (int turn = 0; turn < MOST_TURNS && level >= 0; turn++) {
            tourPicks[level]++;
            int pick = tourPicks[level];
            if (pick >= many) {
                level--;
                taken = level >= 0 ? taken & ~(1 << tourPicks[level]) : 0;
            } else if ((taken >> pick & 1) == 0) {
                Memory trial = trials[level + 1];
                trial.takeFrom(trials[level]);
                boolean done = trial.readLine(tourLines[pick]) == DONE;
                int spent = trial.countFetches() - base;
                // Each read to come fetches its LINE at least.
                if (done && spent + many - 1 - level < best) {
                    taken |= 1 << pick;
                    level++;
                    if (level < many) {
                        tourPicks[level] = NONE;
                    } else {
                        best = spent;
                        keepTour(many);
                        level--;
                        taken &= ~(1 << pick);
                    }
                }
            }
        }
        return best == NO_TOUR ? NONE : best;
    }

    private int listTourLines(long lines) {
        int many = 0;
        for (int line = 0; line < shape.lines && many < MOST_TOUR; line++) {
            if ((lines >>> line & 1) != 0) {
                tourLines[many] = line;
                many++;
            }
        }
        return many;
    }

    private void keepTour(int many) {
        for (int i = 0; i < many; i++) {
            tourRow[i] = tourLines[tourPicks[i]];
        }
    }

    private static int lineMark(int line, int version) {
        return MARK_STEP * line + version;
    }

    /** The TAPE, and the reading of a text that stands at its beginning. */
    private static final class Text {
        final int[] bytes = new int[TAPE_ROOM];
        int count;
        int length;
        int at;
        int fault;
        int place = NONE;
        int wordAt;
        int wordEnd;

        void append(int number) {
            for (int shift = 24; shift >= 0 && count < TAPE_ROOM; shift -= 8) {
                bytes[count] = number >>> shift & 255;
                count++;
            }
        }

        void open(int n) {
            length = n;
            at = 0;
            fault = 0;
            place = NONE;
        }

        /** Always false, so that a reader can give it back. */
        boolean fail(int kind, int where) {
            fault = kind;
            place = where;
            return false;
        }

        /** The byte that stands next, behind blanks; NONE at the end. */
        int next() {
            while (at < length && bytes[at] == ' ') {
                at++;
            }
            return at < length ? bytes[at] : NONE;
        }

        boolean takeSign(char sign) {
            if (next() != sign) {
                return fail(FAULT_SIGN, at);
            }
            at++;
            return true;
        }

        void takeWord() {
            int sign = next();
            wordAt = at;
            while (at < length && sign >= 'a' && sign <= 'z') {
                at++;
                sign = at < length ? bytes[at] : NONE;
            }
            wordEnd = at;
        }

        boolean wordIs(String name) {
            if (wordEnd - wordAt != name.length()) {
                return false;
            }
            for (int i = 0; i < name.length(); i++) {
                if (bytes[wordAt + i] != name.charAt(i)) {
                    return false;
                }
            }
            return true;
        }

        /** A number of that range; NONE with a FAULT. */
        int takeNumber(int low, int high) {
            int sign = next();
            int start = at;
            long value = 0;
            while (at < length && sign >= '0' && sign <= '9') {
                // What is too large already stays so, however many digits come.
                value = value > MOST_KEY ? value : value * 10 + (sign - '0');
                at++;
                sign = at < length ? bytes[at] : NONE;
            }
            if (at == start) {
                fail(FAULT_SIGN, at);
                return NONE;
            }
            if (value < low || value > high) {
                fail(FAULT_NUMBER, start);
                return NONE;
            }
            return (int) value;
        }
    }

    /** A MACHINE as its text tells it. */
    private static final class Plan {
        int fan;
        int depth;
        int hold;
        int bits;
        int key;
        final int[] words = new int[MOST_LINES];

        void clear() {
            fan = 2;
            depth = 3;
            hold = 4;
            bits = 2;
            key = 0;
            for (int i = 0; i < words.length; i++) {
                words[i] = 0;
            }
        }

        boolean readFrom(Text text) {
            clear();
            for (int clause = 0; clause <= MOST_CLAUSES; clause++) {
                if (text.next() == NONE) {
                    return true;
                }
                text.takeWord();
                boolean known = text.wordIs("tree") || text.wordIs("minor") || text.wordIs("key") || text.wordIs("word");
                if (!known) {
                    return text.fail(FAULT_SIGN, text.wordAt);
                }
                if (clause == MOST_CLAUSES) {
                    return text.fail(FAULT_MANY, text.wordAt);
                }
                if (!readClause(text) || !text.takeSign(';')) {
                    return false;
                }
            }
            return text.fail(FAULT_MANY, text.at);
        }

        boolean readClause(Text text) {
            if (text.wordIs("tree")) {
                return readTree(text);
            }
            if (text.wordIs("minor")) {
                bits = text.takeNumber(1, 4);
                return bits != NONE;
            }
            if (text.wordIs("key")) {
                key = text.takeNumber(0, MOST_KEY);
                return key != NONE;
            }
            int line = text.takeNumber(0, MOST_LINES - 1);
            int word = line == NONE ? NONE : text.takeNumber(0, MOST_WORD);
            if (word == NONE) {
                return false;
            }
            words[line] = word;
            return true;
        }

        boolean readTree(Text text) {
            fan = text.takeNumber(2, 4);
            depth = fan == NONE ? NONE : text.takeNumber(1, mostDepth(fan));
            hold = depth == NONE ? NONE : text.takeNumber(depth, MOST_HOLD);
            return hold != NONE;
        }

        static int mostDepth(int fan) {
            int most = 0;
            int lines = fan;
            for (int depth = 1; depth <= MOST_DEPTH; depth++) {
                lines *= fan;
                if (lines <= MOST_LINES) {
                    most = depth;
                }
            }
            return most;
        }
    }

    /** The tree by numbers; a LINE stands in its rows behind all NODES. */
    private static final class Shape {
        int fan;
        int depth;
        int hold;
        int bits;
        int limit;
        int lines;
        int nodes;
        int firstLeaf;
        final int[] aboveOf = new int[MOST_NODES + MOST_LINES];
        final int[] slotOf = new int[MOST_NODES + MOST_LINES];
        final int[] depthOf = new int[MOST_NODES + MOST_LINES];

        void takeFrom(Plan plan) {
            fan = plan.fan;
            depth = plan.depth;
            hold = plan.hold;
            bits = plan.bits;
            limit = 1 << bits;
            nodes = 0;
            int wide = 1;
            for (int d = 1; d <= depth; d++) {
                wide *= fan;
                nodes += wide;
            }
            firstLeaf = nodes - wide;
            lines = wide * fan;
            fillRows();
        }

        void fillRows() {
            for (int node = NONE; node < nodes; node++) {
                for (int k = 0; k < fan; k++) {
                    int part = fan * (node + 1) + k;
                    aboveOf[part] = node;
                    slotOf[part] = k;
                    depthOf[part] = node == NONE ? 1 : depthOf[node] + 1;
                }
            }
        }

        int nodeAt(int line, int wanted) {
            int node = aboveOf[nodes + line];
            for (int d = depth; d > wanted && node >= 0; d--) {
                node = aboveOf[node];
            }
            return node;
        }

        boolean isOnWay(int node, int line) {
            return nodeAt(line, depthOf[node]) == node;
        }

        /** The PARTS of a NODE that are NODES, as bits. */
        long partBits(int node) {
            return node >= firstLeaf ? 0 : (1L << fan) - 1 << fan * (node + 1);
        }
    }

    /** BOX, WEIGHTS, and what is made by them. */
    private static final class Codes {
        final int[] box = new int[256];
        final int[] weights = new int[WEIGHTS];
        final int[] keyBytes = new int[LINE_BYTES];
        long inverse;

        Codes() {
            for (int i = 0; i < box.length; i++) {
                box[i] = i;
            }
            int seed = 1;
            for (int k = box.length - 1; k >= 1; k--) {
                seed = nextSeed(seed);
                int other = drawn(seed) % (k + 1);
                int moved = box[k];
                box[k] = box[other];
                box[other] = moved;
            }
        }

        static int nextSeed(int seed) {
            return seed * 1_103_515_245 + 12_345;
        }

        static int drawn(int seed) {
            return seed >>> 16 & 0x7FFF;
        }

        void takeKey(int key) {
            for (int i = 0; i < LINE_BYTES; i++) {
                keyBytes[i] = key >>> 8 * i & 255;
            }
            int seed = key;
            for (int k = 0; k < WEIGHTS; k++) {
                seed = nextSeed(seed);
                weights[k] = 1 + 30 * drawn(seed);
            }
            inverse = inverseOf(weights[LINE_MARK_WEIGHT]);
        }

        /** By Fermat: the number to the power of PRIME less 2. */
        static long inverseOf(int number) {
            long answer = 1;
            long power = number;
            for (int left = PRIME - 2; left > 0; left >>= 1) {
                if ((left & 1) != 0) {
                    answer = answer * power % PRIME;
                }
                power = power * power % PRIME;
            }
            return answer;
        }

        int padBy(int mark) {
            int pad = 0;
            for (int i = 0; i < LINE_BYTES; i++) {
                int inner = box[mark + keyBytes[i] & 255];
                int outer = box[inner + (mark >> 8) + keyBytes[i + 1 & 3] & 255];
                pad |= outer << 8 * i;
            }
            return pad;
        }

        int lineSum(int[] bytes, int at, int mark) {
            long sum = (long) weights[LINE_MARK_WEIGHT] * mark;
            for (int i = 0; i < LINE_BYTES; i++) {
                sum += (long) weights[i] * bytes[at + i];
            }
            return (int) (sum % PRIME);
        }

        int nodeSum(int[] rows, int at, int mark) {
            long sum = (long) weights[NODE_MARK_WEIGHT] * mark;
            for (int j = 0; j < ROW; j++) {
                sum += (long) weights[NODE_FIRST_WEIGHT + j] * rows[at + j];
            }
            return (int) (sum % PRIME);
        }

        /** What the mark of a LINE has to bring so that bytes and SUM are RIGHT. */
        int lineLack(int[] bytes, int at, int sum) {
            return (PRIME + sum - lineSum(bytes, at, 0)) % PRIME;
        }

        int lineMarkShare(int mark) {
            return (int) ((long) weights[LINE_MARK_WEIGHT] * mark % PRIME);
        }

        /** The mark by which bytes and SUM of a LINE are RIGHT: below PRIME there is just one. */
        int lineMarkOf(int[] bytes, int at, int sum) {
            return (int) (lineLack(bytes, at, sum) * inverse % PRIME);
        }
    }

    /** What lies OUTSIDE. */
    private static final class Outside {
        final int[] bytes = new int[MOST_LINES * LINE_BYTES];
        final int[] lineSums = new int[MOST_LINES];
        final int[] rows = new int[MOST_NODES * ROW];
        final int[] nodeSums = new int[MOST_NODES];

        void takeFrom(Outside other) {
            System.arraycopy(other.bytes, 0, bytes, 0, bytes.length);
            System.arraycopy(other.lineSums, 0, lineSums, 0, lineSums.length);
            System.arraycopy(other.rows, 0, rows, 0, rows.length);
            System.arraycopy(other.nodeSums, 0, nodeSums, 0, nodeSums.length);
        }

        void bendNode(int node, int j, int by, Shape shape) {
            if (j > shape.fan) {
                nodeSums[node] = (nodeSums[node] + by) % PRIME;
                return;
            }
            int mask = j == 0 ? MOST_MAJOR : shape.limit - 1;
            rows[node * ROW + j] = rows[node * ROW + j] + by & mask;
        }
    }

    /** Copies of LINES and NODES that somebody outside keeps. */
    private static final class Album {
        final boolean[] ofNode = new boolean[MOST_COPIES];
        final int[] which = new int[MOST_COPIES];
        final int[] numbers = new int[MOST_COPIES * ROW];
        final int[] sums = new int[MOST_COPIES];
        int count;

        int take(Outside outside, boolean node, int place) {
            if (count >= MOST_COPIES) {
                return REFUSED;
            }
            int size = node ? ROW : LINE_BYTES;
            System.arraycopy(node ? outside.rows : outside.bytes, place * size, numbers, count * ROW, size);
            sums[count] = node ? outside.nodeSums[place] : outside.lineSums[place];
            ofNode[count] = node;
            which[count] = place;
            count++;
            return DONE;
        }

        int lay(int k, Outside outside, boolean node, int place) {
            if (k < 0 || k >= count || ofNode[k] != node) {
                return REFUSED;
            }
            if (node) {
                System.arraycopy(numbers, k * ROW, outside.rows, place * ROW, ROW);
                outside.nodeSums[place] = sums[k];
            } else {
                System.arraycopy(numbers, k * ROW, outside.bytes, place * LINE_BYTES, LINE_BYTES);
                outside.lineSums[place] = sums[k];
            }
            return DONE;
        }
    }

    /** What lies OUTSIDE and what is ON THE CHIP, with all that a read, write, flush or mend does to it. */
    private static final class Memory {
        final Shape shape;
        final Codes codes;
        final Outside outside = new Outside();
        /** The ROOT comes first, as if it were NODE -1. */
        final int[] copies = new int[(MOST_NODES + 1) * ROW];
        final int[] before = new int[ROW];
        final int[] order = new int[MOST_HOLD];
        final int[] fetches = new int[MOST_DEPTH + 2];
        final int[] stores = new int[MOST_DEPTH + 2];
        long heldBits;
        long dirtyBits;
        int heldCount;
        int hold;
        int epoch;
        int tally;
        int went;
        boolean power;
        /** Nothing is asked to be RIGHT. */
        boolean trusting;

        Memory(Shape shape, Codes codes) {
            this.shape = shape;
            this.codes = codes;
        }

        void takeFrom(Memory other) {
            outside.takeFrom(other.outside);
            System.arraycopy(other.copies, 0, copies, 0, copies.length);
            System.arraycopy(other.order, 0, order, 0, order.length);
            System.arraycopy(other.fetches, 0, fetches, 0, fetches.length);
            System.arraycopy(other.stores, 0, stores, 0, stores.length);
            heldBits = other.heldBits;
            dirtyBits = other.dirtyBits;
            heldCount = other.heldCount;
            hold = other.hold;
            epoch = other.epoch;
            tally = other.tally;
            went = other.went;
            power = other.power;
            trusting = other.trusting;
        }

        void begin(int[] words) {
            holdNothing();
            hold = shape.hold;
            epoch = 0;
            tally = 0;
            power = true;
            trusting = false;
            for (int line = 0; line < shape.lines; line++) {
                coverLine(line, words[line], 0);
            }
            clearCounters();
            sumNodes();
            clearCounts();
        }

        void beginTrusting(int otherHold) {
            holdNothing();
            hold = otherHold;
            power = true;
            trusting = true;
            clearCounts();
        }

        void holdNothing() {
            heldBits = 0;
            dirtyBits = 0;
            heldCount = 0;
        }

        void clearCounts() {
            went = 0;
            for (int d = 0; d < fetches.length; d++) {
                fetches[d] = 0;
                stores[d] = 0;
            }
        }

        /** All MAJORS and minors 0, those of the ROOT too. */
        void clearCounters() {
            for (int j = 0; j < ROW; j++) {
                copies[j] = 0;
            }
            for (int i = 0; i < outside.rows.length; i++) {
                outside.rows[i] = 0;
            }
        }

        /** SUMS of all NODES by VERSION 0. */
        void sumNodes() {
            for (int node = 0; node < shape.nodes; node++) {
                outside.nodeSums[node] = codes.nodeSum(outside.rows, node * ROW, nodeMark(node, 0));
            }
        }

        int countFetches() {
            return total(fetches);
        }

        int countStores() {
            return total(stores);
        }

        static int total(int[] counts) {
            int sum = 0;
            for (int i = 0; i < counts.length; i++) {
                sum += counts[i];
            }
            return sum;
        }

        boolean isHeld(int node) {
            return (heldBits >>> node & 1) != 0;
        }

        boolean isDirty(int node) {
            return (dirtyBits >>> node & 1) != 0;
        }

        /** By the one above as it STANDS; a LINE is told by its place behind the NODES. */
        int versionOf(int part) {
            int node = shape.aboveOf[part];
            int slot = shape.slotOf[part];
            if (node == NONE || (heldBits >>> node & 1) != 0) {
                int row = (node + 1) * ROW;
                return shape.limit * copies[row] + copies[row + 1 + slot];
            }
            int row = node * ROW;
            return shape.limit * outside.rows[row] + outside.rows[row + 1 + slot];
        }

        int nodeMark(int node, int version) {
            return EPOCH_STEP * epoch + MARK_STEP * node + version;
        }

        boolean nodeIsRight(int node, int version) {
            return outside.nodeSums[node] == codes.nodeSum(outside.rows, node * ROW, nodeMark(node, version));
        }

        boolean lineIsRight(int line, int version) {
            return outside.lineSums[line] == codes.lineSum(outside.bytes, line * LINE_BYTES, lineMark(line, version));
        }

        /** The DEPTH of the first on the way that is not RIGHT; 0 if the LINE is SOUND. */
        int firstNotRight(int line) {
            for (int d = 1; d <= shape.depth; d++) {
                int node = shape.nodeAt(line, d);
                if (!isHeld(node) && !nodeIsRight(node, versionOf(node))) {
                    return d;
                }
            }
            return lineIsRight(line, versionOf(shape.nodes + line)) ? 0 : shape.depth + 1;
        }

        int wordBy(int line, int version) {
            int bits = 0;
            for (int i = 0; i < LINE_BYTES; i++) {
                bits |= outside.bytes[line * LINE_BYTES + i] << 8 * i;
            }
            return bits ^ codes.padBy(lineMark(line, version));
        }

        void coverLine(int line, int word, int version) {
            int mark = lineMark(line, version);
            int bits = word ^ codes.padBy(mark);
            int at = line * LINE_BYTES;
            for (int i = 0; i < LINE_BYTES; i++) {
                outside.bytes[at + i] = bits >>> 8 * i & 255;
            }
            outside.lineSums[line] = codes.lineSum(outside.bytes, at, mark);
        }

        int findVersion(int line) {
            int mark = codes.lineMarkOf(outside.bytes, line * LINE_BYTES, outside.lineSums[line]);
            int version = mark - lineMark(line, 0);
            return version >= 0 && version < shape.limit * (MOST_MAJOR + 1) ? version : NONE;
        }

        int readLine(int line) {
            int outcome = reachLine(line);
            return outcome == DONE ? fetchLine(line, versionOf(shape.nodes + line)) : outcome;
        }

        int writeLine(int line, int word) {
            int outcome = reachLine(line);
            if (outcome != DONE) {
                return outcome;
            }
            int part = shape.nodes + line;
            int leaf = shape.aboveOf[part];
            int row = (leaf + 1) * ROW;
            int minorAt = row + 1 + shape.slotOf[part];
            int versions = leafVersions(row);
            dirtyBits |= 1L << leaf;
            if (copies[minorAt] + 1 < shape.limit) {
                copies[minorAt]++;
            } else {
                outcome = overflowLeaf(leaf, line);
                if (outcome != DONE) {
                    return outcome;
                }
            }
            coverLine(line, word, versionOf(part));
            stores[shape.depth + 1]++;
            tally += leafVersions(row) - versions;
            return DONE;
        }

        int flushAll() {
            if (!power) {
                return REFUSED;
            }
            int outcome = DONE;
            for (int turn = 0; turn < MOST_HOLD && heldCount > 0 && outcome == DONE; turn++) {
                outcome = letGo(oldestFree(NONE));
            }
            return outcome;
        }

        int leafVersions(int row) {
            int sum = shape.fan * shape.limit * copies[row];
            for (int j = 1; j <= shape.fan; j++) {
                sum += copies[row + j];
            }
            return sum;
        }

        int reachLine(int line) {
            if (!power) {
                return REFUSED;
            }
            for (int d = 1; d <= shape.depth; d++) {
                int node = shape.nodeAt(line, d);
                if (isHeld(node)) {
                    dropFromOrder(node);
                } else {
                    int outcome = heldCount < hold ? DONE : letGo(oldestFree(line));
                    if (outcome == DONE) {
                        outcome = fetchNode(node, versionOf(node));
                    }
                    if (outcome != DONE) {
                        return outcome;
                    }
                    System.arraycopy(outside.rows, node * ROW, copies, (node + 1) * ROW, ROW);
                }
                holdLast(node);
            }
            return DONE;
        }

        void holdLast(int node) {
            if (heldCount < MOST_HOLD) {
                order[heldCount] = node;
                heldCount++;
                heldBits |= 1L << node;
            }
        }

        void dropFromOrder(int node) {
            int kept = 0;
            for (int i = 0; i < heldCount; i++) {
                if (order[i] != node) {
                    order[kept] = order[i];
                    kept++;
                }
            }
            heldCount = kept;
        }

        /** Used longest ago of those without a PART that is HELD, and not on the way to a LINE (if one is told). */
        int oldestFree(int line) {
            for (int i = 0; i < heldCount; i++) {
                int node = order[i];
                boolean kept = line != NONE && shape.isOnWay(node, line);
                if (!kept && (heldBits & shape.partBits(node)) == 0) {
                    return node;
                }
            }
            return NONE;
        }

        int letGo(int node) {
            if (node == NONE) {
                return REFUSED;
            }
            went++;
            boolean wasDirty = isDirty(node);
            dropFromOrder(node);
            heldBits &= ~(1L << node);
            dirtyBits &= ~(1L << node);
            if (!wasDirty) {
                return DONE;
            }
            int up = shape.aboveOf[node];
            int minorAt = (up + 1) * ROW + 1 + shape.slotOf[node];
            if (up != NONE) {
                dirtyBits |= 1L << up;
            }
            if (copies[minorAt] + 1 < shape.limit) {
                copies[minorAt]++;
            } else {
                int outcome = overflowNode(up, node);
                if (outcome != DONE) {
                    return outcome;
                }
            }
            storeNode(node, true);
            return DONE;
        }

        /** The row there was is kept, as others are RIGHT by it still; false if it would be WORN. */
        boolean raiseMajor(int row) {
            if (copies[row] >= MOST_MAJOR) {
                return false;
            }
            System.arraycopy(copies, row, before, 0, ROW);
            copies[row]++;
            for (int j = 1; j < ROW; j++) {
                copies[row + j] = 0;
            }
            return true;
        }

        int overflowNode(int node, int gone) {
            if (!raiseMajor((node + 1) * ROW)) {
                return WORN;
            }
            for (int k = 0; k < shape.fan; k++) {
                int part = shape.fan * (node + 1) + k;
                if (part == gone) {
                    continue;
                }
                boolean copied = isHeld(part);
                int outcome = copied ? DONE : fetchNode(part, shape.limit * before[0] + before[1 + k]);
                if (outcome != DONE) {
                    return outcome;
                }
                storeNode(part, copied);
                dirtyBits &= ~(1L << part);
            }
            return DONE;
        }

        int overflowLeaf(int leaf, int written) {
            if (!raiseMajor((leaf + 1) * ROW)) {
                return WORN;
            }
            int firstLine = shape.fan * (leaf + 1) - shape.nodes;
            for (int k = 0; k < shape.fan; k++) {
                int line = firstLine + k;
                if (line == written) {
                    continue;
                }
                int old = shape.limit * before[0] + before[1 + k];
                int outcome = fetchLine(line, old);
                if (outcome != DONE) {
                    return outcome;
                }
                coverLine(line, wordBy(line, old), versionOf(shape.nodes + line));
                stores[shape.depth + 1]++;
            }
            return DONE;
        }

        /** DONE, or the DEPTH at which it is not RIGHT. */
        int fetchNode(int node, int version) {
            int depth = shape.depthOf[node];
            int mark = nodeMark(node, version);
            if (!trusting && outside.nodeSums[node] != codes.nodeSum(outside.rows, node * ROW, mark)) {
                return depth;
            }
            fetches[depth]++;
            return DONE;
        }

        int fetchLine(int line, int version) {
            int depth = shape.depth + 1;
            if (!trusting && !lineIsRight(line, version)) {
                return depth;
            }
            fetches[depth]++;
            return DONE;
        }

        void storeNode(int node, boolean byCopy) {
            if (byCopy) {
                System.arraycopy(copies, (node + 1) * ROW, outside.rows, node * ROW, ROW);
            }
            outside.nodeSums[node] = codes.nodeSum(outside.rows, node * ROW, nodeMark(node, versionOf(node)));
            stores[shape.depthOf[node]]++;
        }

        int losePower() {
            if (!power) {
                return REFUSED;
            }
            holdNothing();
            power = false;
            return DONE;
        }

        /** Why mend could not be done without power (2 to 5); 0 if it could. */
        int barToMend() {
            int sum = 0;
            boolean unlike = false;
            for (int line = 0; line < shape.lines; line++) {
                int version = findVersion(line);
                if (version == NONE) {
                    return 2;
                }
                sum += version;
                int ahead = line - shape.slotOf[shape.nodes + line];
                if (findVersion(ahead) >> shape.bits != version >> shape.bits) {
                    unlike = true;
                }
            }
            if (unlike) {
                return 3;
            }
            if (sum != tally) {
                return 4;
            }
            return epoch >= MOST_EPOCH ? 5 : 0;
        }

        int mendAll() {
            epoch++;
            clearCounters();
            for (int line = 0; line < shape.lines; line++) {
                int part = shape.nodes + line;
                int row = shape.aboveOf[part] * ROW;
                int version = findVersion(line);
                outside.rows[row] = version >> shape.bits;
                outside.rows[row + 1 + shape.slotOf[part]] = version & shape.limit - 1;
            }
            sumNodes();
            power = true;
            return DONE;
        }

        /** How many NODES OUTSIDE would have other MAJORS or minors by mend. */
        int countMended() {
            int many = 0;
            for (int node = 0; node < shape.nodes; node++) {
                boolean same = true;
                for (int k = 0; k < shape.fan; k++) {
                    int part = shape.fan * (node + 1) + k;
                    int version = node < shape.firstLeaf ? 0 : findVersion(part - shape.nodes);
                    int major = outside.rows[node * ROW];
                    int minor = outside.rows[node * ROW + 1 + k];
                    same = same && major == version >> shape.bits && minor == (version & shape.limit - 1);
                }
                if (!same) {
                    many++;
                }
            }
            return many;
        }
    }

    /** WORK as rows of its STEPS; again stands where it opens, CLOSE where it ends. */
    private static final class Program {
        final int[] kinds = new int[WORK_ROOM];
        final int[] numbers = new int[WORK_ROOM * STEP_NUMBERS];
        final int[] closes = new int[WORK_ROOM];
        final int[] opens = new int[MOST_OPEN];
        final int[] rounds = new int[MOST_OPEN];
        int size;
        int level;
        int next;
        int begun;
        int at;

        boolean readFrom(Text text, Shape shape) {
            size = 0;
            int open = 0;
            for (int turn = 0; turn < WORK_ROOM; turn++) {
                int sign = text.next();
                if (sign == NONE) {
                    return open == 0 || text.fail(FAULT_SIGN, text.at);
                }
                if (open > 0 && sign == ']') {
                    open--;
                    kinds[size] = CLOSE;
                    closes[opens[open]] = size;
                    size++;
                    text.at++;
                    if (!text.takeSign(';')) {
                        return false;
                    }
                    continue;
                }
                int kind = readKind(text);
                if (kind == NONE) {
                    return text.fail(FAULT_SIGN, text.wordAt);
                }
                if (kind == AGAIN && open >= MOST_OPEN) {
                    return text.fail(FAULT_MANY, text.wordAt);
                }
                if (!readNumbers(text, kind, shape) || !text.takeSign(kind == AGAIN ? '[' : ';')) {
                    return false;
                }
                if (kind == AGAIN) {
                    opens[open] = size;
                    open++;
                }
                size++;
            }
            return text.fail(FAULT_SIGN, text.at);
        }

        static int readKind(Text text) {
            text.takeWord();
            return text.wordIs("write") ? WRITE
                : text.wordIs("read") ? READ
                : text.wordIs("flush") ? FLUSH
                : text.wordIs("loss") ? LOSS
                : text.wordIs("mend") ? MEND
                : text.wordIs("flip") ? FLIP
                : text.wordIs("bend") ? BEND
                : text.wordIs("copy") ? COPY
                : text.wordIs("pick") ? PICK
                : text.wordIs("lay") ? LAY
                : text.wordIs("graft") ? GRAFT
                : text.wordIs("shoot") ? SHOOT
                : text.wordIs("replay") ? REPLAY
                : text.wordIs("again") ? AGAIN
                : NONE;
        }

        boolean readNumbers(Text text, int kind, Shape shape) {
            String wanted = numbersOf(kind);
            kinds[size] = kind;
            for (int i = 0; i < wanted.length() && i < STEP_NUMBERS; i++) {
                int sort = wanted.charAt(i);
                int number = text.takeNumber(sort == 'X' || sort == 'x' ? 1 : 0, mostOf(sort, shape));
                if (number == NONE) {
                    return false;
                }
                numbers[size * STEP_NUMBERS + i] = number;
            }
            return true;
        }

        /** A letter for each number: L, N, V, Y, X, J, A, Z as the document has them; x is X of bend, R are rounds. */
        static String numbersOf(int kind) {
            switch (kind) {
                case WRITE: return "LV";
                case READ: return "L";
                case FLIP: return "LYX";
                case BEND: return "NJx";
                case COPY: return "L";
                case PICK: return "N";
                case LAY: return "AL";
                case GRAFT: return "AN";
                case REPLAY: return "Z";
                case AGAIN: return "R";
                default: return "";
            }
        }

        static int mostOf(int sort, Shape shape) {
            switch (sort) {
                case 'L': return shape.lines - 1;
                case 'N': return shape.nodes - 1;
                case 'V': return MOST_WORD;
                case 'Y': return LINE_BYTES - 1;
                case 'X': return 255;
                case 'J': return shape.fan + 1;
                case 'x': return 999;
                case 'A': return MOST_COPIES - 1;
                case 'Z': return MOST_SHOTS - 1;
                default: return MOST_ROUNDS;
            }
        }

        void rewind() {
            level = 0;
            next = 0;
            begun = 0;
        }

        /** Goes to the next STEP that is no again; false if there is none, or as many as may be were begun. */
        boolean advance() {
            for (int turn = 0; turn < MOST_TURNS && next < size && begun < MOST_STEPS; turn++) {
                at = next;
                next++;
                if (kinds[at] == CLOSE) {
                    endRound();
                } else {
                    begun++;
                    if (kinds[at] != AGAIN) {
                        return true;
                    }
                    openLoop();
                }
            }
            return false;
        }

        void openLoop() {
            int told = numbers[at * STEP_NUMBERS];
            if (told == 0 || level >= MOST_OPEN) {
                next = closes[at] + 1;
                return;
            }
            opens[level] = at;
            rounds[level] = told;
            level++;
        }

        void endRound() {
            if (level == 0) {
                return;
            }
            rounds[level - 1]--;
            if (rounds[level - 1] > 0) {
                next = opens[level - 1] + 1;
            } else {
                level--;
            }
        }
    }

    /** What was REFUSED of the latest WORK. */
    private static final class Report {
        int refused;
        int stale;
        int worn;
        int staleDepth = NONE;

        void clear() {
            refused = 0;
            stale = 0;
            worn = 0;
            staleDepth = NONE;
        }

        void add(int outcome) {
            if (outcome == DONE) {
                return;
            }
            refused++;
            if (outcome == WORN) {
                worn++;
            } else if (outcome < WORN) {
                stale++;
                staleDepth = outcome;
            }
        }
    }

    /** LINES of the latest reads and writes that were done. */
    private static final class Reel {
        final int[] lines = new int[MOST_REEL];
        int count;

        void add(int line) {
            if (count == MOST_REEL) {
                count--;
                for (int i = 0; i < count; i++) {
                    lines[i] = lines[i + 1];
                }
            }
            lines[count] = line;
            count++;
        }
    }
}
