/**
 * Shift machines with carries: what they tell as rows of bits, these rows as numbers, as fractions,
 * as linear laws, and texts that make and move machines. Refused calls answer a number and change
 * nothing; no call throws.
 */
public final class CarryShifts {
    public static final int NONE = -1, BAD = -2, STATE = -3, FULL = -4;
    public static final long NO = Long.MIN_VALUE;

    private static final int REFUSED = -1000, REFUSED_MISSING = -1011;
    private static final int MISSING = -11, OUTSIDE = -12, UNLIKE = -13, BELOW_NOTHING = -14;
    private static final int FAULT = -100;

    private static final int MOST_MACHINES = 4, MOST_CELLS = 6, MOST_CARRY = 9, MOST_BITS = 40;
    private static final int MOST_STEPS = 30, MOST_FRACTION_BITS = 24, MOST_PART = 9999;
    private static final int MOST_WINDOW = 8, MOST_SPOILT = 8, MOST_SEEDS = 20, MOST_FED = 5;
    private static final int CARRYING = 0, LINEAR = 1, TURNED = 2, BORROWING = 3, HELD = 4, RING = 5;
    private static final int SHEETS = 4, SHORTS = 0, INTS = 1;
    private static final int NUMBERS_LOADED = 4, NUMBERS_IMAGED = 5;
    // Far above the steps, digits and divisions that any machine, fraction or pair of numbers needs.
    private static final int MANY = 1000000;

    private final Carrying[] machines = new Carrying[MOST_MACHINES];
    private int machineCount = 0;
    private final int[] imaged = new int[MOST_MACHINES * NUMBERS_IMAGED];
    private int imagedCount = NONE;
    private final Sheet[] sheets = new Sheet[SHEETS];
    private final Script tape = new Script();
    private final Least least = new Least();
    private final Law law = new Law();
    private final long[] tellings = new long[MOST_MACHINES];

    public CarryShifts() {
        for (int i = 0; i < sheets.length; i++) {
            sheets[i] = new Sheet();
        }
    }

    // ---- machines

    public int machine(int kind, int cells, int taps, int state) {
        if (!between(kind, CARRYING, RING) || !between(cells, 1, MOST_CELLS)
                || !between(taps, 1, allCells(cells)) || !between(state, 0, allCells(cells))) {
            return BAD;
        }
        return join(made(kind, cells, taps, state, 0));
    }

    public int drop() {
        if (machineCount < 1 || machineCount > machines.length) {
            return STATE;
        }
        machineCount--;
        machines[machineCount] = null;
        return machineCount;
    }

    public int set(int machine, int what, int v) {
        Carrying m = machineAt(machine);
        if (m == null || !between(machine, 0, machines.length - 1) || !canBecome(m, what, v)) {
            return REFUSED;
        }
        int was;
        switch (what) {
            case 0:
                was = m.state;
                m.state = v;
                break;
            case 1:
                was = m.carry;
                m.carry = v;
                break;
            case 2:
                was = m.taps;
                machines[machine] = made(m.kind, m.cells, v, m.state, m.carry);
                break;
            default:
                was = m.kind;
                machines[machine] = made(v, m.cells, m.taps, m.state, m.carry);
                break;
        }
        return was;
    }

    public int of(int machine, int what) {
        Carrying m = machineAt(machine);
        if (m == null) {
            return REFUSED;
        }
        switch (what) {
            case 0: return m.kind;
            case 1: return m.cells;
            case 2: return m.taps;
            case 3: return m.state;
            case 4: return m.carry;
            case 5: return m.digits;
            case 6: return m.links();
            default: return REFUSED;
        }
    }

    public int taken(int machine, int k) {
        Carrying m = machineAt(machine);
        if (m == null || !between(k, CARRYING, RING)) {
            return BAD;
        }
        return isUnder(m, k) ? m.taps : UNLIKE;
    }

    // ---- steps

    public int step(int machine, int n) {
        Carrying m = machineAt(machine);
        if (m == null || !between(n, 1, MOST_STEPS)) {
            return BAD;
        }
        return (int) tell(m, n);
    }

    public int then(int machine, int n, int what) {
        Carrying m = machineAt(machine);
        if (m == null || !between(n, 0, MOST_BITS) || !between(what, 0, 2)) {
            return REFUSED;
        }
        Carrying thought = thoughtOf(m);
        tell(thought, n);
        switch (what) {
            case 0: return thought.state & 1;
            case 1: return thought.state;
            default: return thought.carry;
        }
    }

    public int film(int sheet, int machine, int n) {
        Sheet s = sheetAt(sheet);
        Carrying m = machineAt(machine);
        if (s == null || m == null || !between(n, 0, MOST_BITS)) {
            return BAD;
        }
        s.becomeRow(tell(thoughtOf(m), n), n);
        return n;
    }

    public int mix(int sheet, int set, int n, int is) {
        Sheet s = sheetAt(sheet);
        if (s == null || !between(set, 0, (1 << machineCount) - 1)
                || !between(n, 0, MOST_BITS) || !between(is, 0, 1)) {
            return BAD;
        }
        tellAll(n);
        long mixed = 0;
        int carried = 0;
        for (int i = 0; i < n; i++) {
            int sum = toldTogether(set, i) + carried;
            mixed |= (long) (sum & 1) << i;
            carried = is == 1 ? sum >> 1 : 0;
        }
        s.becomeRow(mixed, n);
        return n;
    }

    // ---- rows as numbers, as fractions

    public long number(int sheet) {
        Sheet s = sheetAt(sheet);
        return s == null || s.isMissing() ? NO : s.bits();
    }

    public int expand(int sheet, int p, int q, int n) {
        Sheet s = sheetAt(sheet);
        if (s == null || !between(n, 0, MOST_BITS) || !isFraction(p, q)) {
            return BAD;
        }
        if ((q & 1) == 0) {
            return STATE;
        }
        s.becomeRow(firstDigits(p, q, n), n);
        return n;
    }

    public int period(int p, int q, int what) {
        if (!between(what, 0, 1) || !isFraction(p, q)) {
            return BAD;
        }
        if ((q & 1) == 0) {
            return STATE;
        }
        long left = p;
        int ahead = 0;
        while (ahead < MANY && (left > 0 || left < -q)) {
            left = behindDigit(left, q);
            ahead++;
        }
        return what == 1 ? ahead : digitsRound(left, q);
    }

    public long fraction(int sheet, int what) {
        Sheet s = sheetAt(sheet);
        if (s == null || !between(what, 0, 3) || s.isMissing() || s.size > MOST_FRACTION_BITS) {
            return NO;
        }
        least.find(s.bits(), s.size);
        switch (what) {
            case 0: return least.above;
            case 1: return least.below;
            case 2: return least.greater();
            default: return binaryDigits(least.greater());
        }
    }

    public long told(int machine, int part) {
        Carrying m = machineAt(machine);
        if (m == null || !between(part, 0, 1) || m.kind != CARRYING) {
            return NO;
        }
        long above = aboveWithoutCarry(m.cells, m.taps, m.state) - ((long) m.carry << m.cells);
        return inLowestTerms(above, m.links(), part);
    }

    public int build(int sheet) {
        Sheet s = sheetAt(sheet);
        if (s == null) {
            return BAD;
        }
        if (s.isMissing()) {
            return MISSING;
        }
        if (s.size > MOST_FRACTION_BITS) {
            return BAD;
        }
        if (machineCount >= MOST_MACHINES) {
            return FULL;
        }
        least.find(s.bits(), s.size);
        return buildFrom(least.above, least.below);
    }

    public int cycle(int machine, int what) {
        Carrying m = machineAt(machine);
        if (m == null || !between(what, 0, 1)) {
            return BAD;
        }
        int round = stepsRound(m);
        return what == 0 ? round : stepsAhead(m, round);
    }

    // ---- linear laws

    public long linear(int sheet, int what) {
        Sheet s = sheetAt(sheet);
        if (s == null || !between(what, 0, 1) || s.isMissing()) {
            return NO;
        }
        return lawAnswer(s.bits(), s.size, what);
    }

    public long twin(int machine, int n, int what) {
        Carrying m = machineAt(machine);
        if (m == null || !between(n, 0, MOST_BITS) || !between(what, 0, 1)) {
            return NO;
        }
        return lawAnswer(tell(thoughtOf(m), n), n, what);
    }

    public int compare(int sheet) {
        Sheet s = sheetAt(sheet);
        if (s == null) {
            return REFUSED;
        }
        if (s.isMissing()) {
            return REFUSED_MISSING;
        }
        if (s.size > MOST_FRACTION_BITS) {
            return REFUSED;
        }
        least.find(s.bits(), s.size);
        law.find(s.bits(), s.size);
        return binaryDigits(least.greater()) - law.cells;
    }

    // ---- words, runs

    public int windows(int sheet, int w, int what) {
        Sheet s = sheetAt(sheet);
        if (s == null || !between(w, 1, MOST_WINDOW) || !between(what, 0, 2)) {
            return BAD;
        }
        if (s.isMissing()) {
            return MISSING;
        }
        return countWords(s.bits(), s.size - w + 1, (1 << w) - 1, what);
    }

    public int runs(int sheet, int bit, int length) {
        Sheet s = sheetAt(sheet);
        if (s == null || !between(bit, NONE, 1)) {
            return BAD;
        }
        if (s.isMissing()) {
            return MISSING;
        }
        return bit == NONE ? unlikeRuns(s.bits(), s.size) : runsOf(s.bits(), s.size, bit, length);
    }

    // ---- what replays a row

    public int replays(int machine, int sheet, int what) {
        Carrying m = machineAt(machine);
        Sheet s = sheetAt(sheet);
        if (m == null || s == null || !between(what, 0, 2)) {
            return BAD;
        }
        if (s.isMissing()) {
            return MISSING;
        }
        switch (what) {
            case 0: return firstOtherwise(m, s.bits(), s.size);
            case 1: return replayingKinds(m, s.bits(), s.size);
            default: return replayingCarries(m, s.bits(), s.size);
        }
    }

    public int search(int sheet, int kind, int cells) {
        Sheet s = sheetAt(sheet);
        if (s == null || !between(kind, CARRYING, RING) || !between(cells, 1, MOST_CELLS)) {
            return BAD;
        }
        if (s.isMissing()) {
            return MISSING;
        }
        if (s.size < cells) {
            return STATE;
        }
        return firstReplaying(s.bits(), s.size, kind, cells);
    }

    public int alike(int machine, int n) {
        Carrying m = machineAt(machine);
        if (m == null || !between(n, 0, MOST_BITS)) {
            return BAD;
        }
        tellAll(n);
        long mine = tell(thoughtOf(m), n);
        int found = 0;
        for (int i = 0; i < machineCount && i < tellings.length; i++) {
            if (tellings[i] == mine) {
                found |= 1 << i;
            }
        }
        return found;
    }

    // ---- lots

    public int drawn(int sheet, int seed, int n) {
        Sheet s = sheetAt(sheet);
        if (s == null || !between(n, 0, MOST_SPOILT)) {
            return BAD;
        }
        if (s.isMissing()) {
            return MISSING;
        }
        if (s.size < 1) {
            return STATE;
        }
        law.find(spoilt(s.bits(), s.size, seed, n), s.size);
        return law.cells;
    }

    public int chance(int sheet, int seed, int m, int n, int k, int part) {
        Sheet s = sheetAt(sheet);
        if (s == null || !between(m, 1, MOST_SEEDS) || !between(n, 0, MOST_SPOILT)
                || !between(k, 0, MOST_BITS) || !between(part, 0, 1)) {
            return BAD;
        }
        if (s.isMissing()) {
            return MISSING;
        }
        if (s.size < 1) {
            return STATE;
        }
        int few = 0;
        for (int i = 0; i < m; i++) {
            law.find(spoilt(s.bits(), s.size, seed + i, n), s.size);
            if (law.cells <= k) {
                few++;
            }
        }
        return (int) inLowestTerms(few, m, part);
    }

    // ---- texts

    public int feed(int n, int a, int b, int c, int d, int e) {
        if (!between(n, 1, MOST_FED) || !isByte(a) || !isByte(b) || !isByte(c) || !isByte(d) || !isByte(e)) {
            return BAD;
        }
        if (!tape.hasRoom(n)) {
            return FULL;
        }
        tape.add(a);
        if (n > 1) {
            tape.add(b);
        }
        if (n > 2) {
            tape.add(c);
        }
        if (n > 3) {
            tape.add(d);
        }
        if (n > 4) {
            tape.add(e);
        }
        return tape.size;
    }

    public int text() {
        int fault = tape.read();
        tape.size = 0;
        if (fault != NONE) {
            return FAULT - fault;
        }
        int did = 0;
        for (int i = 0; i < tape.clauses; i++) {
            if (doClause(tape.wordOf(i), i)) {
                did++;
            }
        }
        return did;
    }

    // ---- the image, the host

    public int image() {
        for (int i = 0; i < machineCount; i++) {
            imageOne(machineAt(i), i * NUMBERS_IMAGED);
        }
        imagedCount = machineCount;
        return machineCount;
    }

    public int back() {
        if (imagedCount == NONE) {
            return STATE;
        }
        for (int i = 0; i < machines.length; i++) {
            machines[i] = i < imagedCount ? imagedAt(i * NUMBERS_IMAGED) : null;
        }
        machineCount = imagedCount;
        return machineCount;
    }

    public int load(int sheet, int sort, int from, int n) {
        Sheet s = sheetAt(sheet);
        if (s == null || !between(sort, SHORTS, INTS) || !between(n, 0, NUMBERS_LOADED)) {
            return BAD;
        }
        if (s.isMissing()) {
            return MISSING;
        }
        if (s.sort != sort) {
            return UNLIKE;
        }
        int came = 0;
        for (int i = 0; i < n; i++) {
            long place = (long) from + i * NUMBERS_LOADED;
            if (!s.has(place, NUMBERS_LOADED)) {
                return OUTSIDE;
            }
            int p = (int) place;
            if (machine(s.items[p], s.items[p + 1], s.items[p + 2], s.items[p + 3]) >= 0) {
                came++;
            }
        }
        return came;
    }

    public int count(int what) {
        switch (what) {
            case 0: return machineCount;
            case 1: return tape.size;
            case 2: return cellsOf(CARRYING);
            case 3: return numbersOf(LINEAR);
            case 4: return cellsOf(RING);
            default: return BAD;
        }
    }

    public int sheet(int sheet, int sort, int n) {
        Sheet s = sheetAt(sheet);
        if (s == null || !between(sort, NONE, INTS)) {
            return BAD;
        }
        if (sort == NONE) {
            s.become(NONE, 0);
            return 1;
        }
        if (n > MOST_BITS) {
            return BAD;
        }
        if (n < 0) {
            return BELOW_NOTHING;
        }
        s.become(sort, n);
        return 1;
    }

    public int put(int sheet, int i, int v) {
        Sheet s = sheetAt(sheet);
        if (s == null) {
            return BAD;
        }
        if (s.isMissing()) {
            return MISSING;
        }
        if (!s.has(i, 1)) {
            return OUTSIDE;
        }
        s.items[i] = s.sort == SHORTS ? (short) v : v;
        return 1;
    }

    public int copy(int sheet, int i, int other, int j, int n) {
        Sheet s = sheetAt(sheet);
        Sheet o = sheetAt(other);
        if (s == null || o == null) {
            return BAD;
        }
        if (s.isMissing() || o.isMissing()) {
            return MISSING;
        }
        if (s.sort != o.sort) {
            return UNLIKE;
        }
        if (!s.has(i, n) || !o.has(j, n)) {
            return OUTSIDE;
        }
        System.arraycopy(s.items, i, o.items, j, n);
        return n;
    }

    // ---- machines, inside

    private static boolean between(int v, int low, int high) {
        return v >= low && v <= high;
    }

    private static int allCells(int cells) {
        return (1 << cells) - 1;
    }

    private static Carrying made(int kind, int cells, int taps, int state, int carry) {
        Carrying m;
        switch (kind) {
            case LINEAR: m = new Linear(LINEAR, cells, taps); break;
            case TURNED: m = new Turned(cells, taps); break;
            case BORROWING: m = new Borrowing(cells, taps); break;
            case HELD: m = new Held(cells, taps); break;
            case RING: m = new Ring(cells, taps); break;
            default: m = new Carrying(CARRYING, cells, taps); break;
        }
        m.state = state;
        m.carry = carry;
        return m;
    }

    private static Carrying thoughtOf(Carrying m) {
        return made(m.kind, m.cells, m.taps, m.state, m.carry);
    }

    private static boolean isUnder(Carrying m, int kind) {
        switch (kind) {
            case LINEAR: return m instanceof Linear;
            case TURNED: return m instanceof Turned;
            case BORROWING: return m instanceof Borrowing;
            case HELD: return m instanceof Held;
            case RING: return m instanceof Ring;
            default: return true;
        }
    }

    private int join(Carrying m) {
        if (machineCount >= machines.length) {
            return FULL;
        }
        machines[machineCount] = m;
        machineCount++;
        return machineCount - 1;
    }

    private Carrying machineAt(int i) {
        return i >= 0 && i < machineCount && i < machines.length ? machines[i] : null;
    }

    private static boolean canBecome(Carrying m, int what, int v) {
        switch (what) {
            case 0: return between(v, 0, allCells(m.cells));
            case 1: return between(v, -MOST_CARRY, MOST_CARRY);
            case 2: return between(v, 1, allCells(m.cells));
            case 3: return between(v, CARRYING, RING);
            default: return false;
        }
    }

    private int cellsOf(int kind) {
        int cells = 0;
        for (int i = 0; i < machineCount; i++) {
            Carrying m = machineAt(i);
            if (m != null && isUnder(m, kind)) {
                cells += m.cells;
            }
        }
        return cells;
    }

    private int numbersOf(int kind) {
        int found = 0;
        for (int i = 0; i < machineCount; i++) {
            Carrying m = machineAt(i);
            if (m != null && isUnder(m, kind)) {
                found |= 1 << i;
            }
        }
        return found;
    }

    private void imageOne(Carrying m, int from) {
        if (m == null || !between(from, 0, imaged.length - NUMBERS_IMAGED)) {
            return;
        }
        imaged[from] = m.kind;
        imaged[from + 1] = m.cells;
        imaged[from + 2] = m.taps;
        imaged[from + 3] = m.state;
        imaged[from + 4] = m.carry;
    }

    private Carrying imagedAt(int from) {
        if (!between(from, 0, imaged.length - NUMBERS_IMAGED)) {
            return null;
        }
        return made(imaged[from], imaged[from + 1], imaged[from + 2], imaged[from + 3], imaged[from + 4]);
    }

    // ---- what is told, inside

    private static long tell(Carrying m, int n) {
        long bits = 0;
        for (int i = 0; i < n; i++) {
            bits |= (long) m.advance() << i;
        }
        return bits;
    }

    private void tellAll(int n) {
        for (int i = 0; i < tellings.length; i++) {
            Carrying m = machineAt(i);
            tellings[i] = m == null ? 0 : tell(thoughtOf(m), n);
        }
    }

    private int toldTogether(int set, int place) {
        int sum = 0;
        for (int i = 0; i < tellings.length; i++) {
            if ((set >> i & 1) == 1) {
                sum += (int) (tellings[i] >>> place & 1);
            }
        }
        return sum;
    }

    private static int stepsRound(Carrying m) {
        Carrying slow = thoughtOf(m);
        Carrying quick = thoughtOf(m);
        quick.advance();
        int length = 1;
        int reach = 1;
        for (int i = 0; i < MANY && !quick.standsAs(slow); i++) {
            if (length == reach) {
                slow.state = quick.state;
                slow.carry = quick.carry;
                reach *= 2;
                length = 0;
            }
            quick.advance();
            length++;
        }
        return length;
    }

    private static int stepsAhead(Carrying m, int round) {
        Carrying slow = thoughtOf(m);
        Carrying quick = thoughtOf(m);
        for (int i = 0; i < round; i++) {
            quick.advance();
        }
        int ahead = 0;
        while (ahead < MANY && !quick.standsAs(slow)) {
            slow.advance();
            quick.advance();
            ahead++;
        }
        return ahead;
    }

    // The machine given is moved.
    private static boolean tellsRow(Carrying m, long bits, int size) {
        for (int i = 0; i < size; i++) {
            if (m.advance() != (int) (bits >>> i & 1)) {
                return false;
            }
        }
        return true;
    }

    private static int firstOtherwise(Carrying m, long bits, int size) {
        long otherwise = tell(thoughtOf(m), size) ^ bits;
        return otherwise == 0 ? NONE : Long.numberOfTrailingZeros(otherwise);
    }

    private static int replayingKinds(Carrying m, long bits, int size) {
        int found = 0;
        for (int kind = CARRYING; kind <= RING; kind++) {
            if (tellsRow(made(kind, m.cells, m.taps, m.state, m.carry), bits, size)) {
                found |= 1 << kind;
            }
        }
        return found;
    }

    private static int replayingCarries(Carrying m, long bits, int size) {
        Carrying thought = thoughtOf(m);
        int found = 0;
        for (int carry = -MOST_CARRY; carry <= MOST_CARRY; carry++) {
            thought.state = m.state;
            thought.carry = carry;
            if (tellsRow(thought, bits, size)) {
                found |= 1 << (carry + MOST_CARRY);
            }
        }
        return found;
    }

    private static int firstReplaying(long bits, int size, int kind, int cells) {
        int state = (int) (bits & allCells(cells));
        Carrying thought = made(kind, cells, 1, state, 0);
        for (int taps = 1; taps <= allCells(cells); taps++) {
            thought.taps = taps;
            for (int carry = -MOST_CARRY; carry <= MOST_CARRY; carry++) {
                thought.state = state;
                thought.carry = carry;
                if (tellsRow(thought, bits, size)) {
                    return 100 * taps + carry + MOST_CARRY;
                }
            }
        }
        return NONE;
    }

    // ---- rows and fractions, inside

    private Sheet sheetAt(int i) {
        return i >= 0 && i < sheets.length ? sheets[i] : null;
    }

    private static boolean isFraction(int p, int q) {
        return between(p, -MOST_PART, MOST_PART) && between(q, 1, MOST_PART);
    }

    private static long behindDigit(long p, long q) {
        return p - (p & 1) * q >> 1;
    }

    private static long firstDigits(long p, long q, int n) {
        long digits = 0;
        long left = p;
        for (int i = 0; i < n; i++) {
            digits |= (left & 1) << i;
            left = behindDigit(left, q);
        }
        return digits;
    }

    private static int digitsRound(long p, long q) {
        long left = behindDigit(p, q);
        int round = 1;
        while (round < MANY && left != p) {
            left = behindDigit(left, q);
            round++;
        }
        return round;
    }

    private static int binaryDigits(long v) {
        return 64 - Long.numberOfLeadingZeros(v);
    }

    private static long commonDivisor(long a, long b) {
        long great = a;
        long small = b;
        for (int i = 0; i < MANY && small != 0; i++) {
            long rest = great % small;
            great = small;
            small = rest;
        }
        return great;
    }

    private static long inLowestTerms(long above, long below, int part) {
        long common = commonDivisor(Math.abs(above), below);
        long v = part == 0 ? above : below;
        return common > 0 ? v / common : v;
    }

    /**
     * What LINKS times the number told by a machine without a carry is: the law of a step, summed
     * over all steps with 2 to the place, leaves only what its cells hold at first.
     */
    private static long aboveWithoutCarry(int cells, int taps, int state) {
        long above = -state;
        for (int j = 0; j < cells; j++) {
            if ((taps >> j & 1) == 1) {
                above += (long) (state & allCells(j)) << (cells - j);
            }
        }
        return above;
    }

    private int buildFrom(long p, long q) {
        int cells = binaryDigits(q + 1) - 1;
        if (!between(cells, 1, MOST_CELLS)) {
            return STATE;
        }
        int taps = 0;
        for (int j = 0; j < cells; j++) {
            taps |= (int) (q + 1 >> (cells - j) & 1) << j;
        }
        int state = (int) firstDigits(p, q, cells);
        long carry = aboveWithoutCarry(cells, taps, state) - p >> cells;
        if (carry < -MOST_CARRY || carry > MOST_CARRY) {
            return STATE;
        }
        return join(made(CARRYING, cells, taps, state, (int) carry));
    }

    private long lawAnswer(long bits, int size, int what) {
        law.find(bits, size);
        if (what == 0) {
            return law.cells;
        }
        return 2 * law.cells > size ? NONE : law.taps;
    }

    private static int countWords(long bits, int places, int mask, int what) {
        int unlike = 0;
        int word = NONE;
        int most = NONE;
        for (int i = 0; i < places; i++) {
            int here = (int) (bits >>> i & mask);
            if (timesWord(bits, i, mask, here) > 0) {
                continue;
            }
            unlike++;
            int times = timesWord(bits, places, mask, here);
            if (times > most) {
                most = times;
                word = here;
            }
        }
        switch (what) {
            case 0: return unlike;
            case 1: return word;
            default: return most;
        }
    }

    private static int timesWord(long bits, int places, int mask, int word) {
        int times = 0;
        for (int i = 0; i < places; i++) {
            if ((int) (bits >>> i & mask) == word) {
                times++;
            }
        }
        return times;
    }

    private static int runLength(long bits, int size, int from) {
        long bit = bits >>> from & 1;
        int end = from;
        while (end < size && (bits >>> end & 1) == bit) {
            end++;
        }
        return end - from;
    }

    private static int runsOf(long bits, int size, int bit, int length) {
        int found = 0;
        for (int i = 0; i < size; i++) {
            if (beginsRun(bits, i) && (bits >>> i & 1) == bit && runLength(bits, size, i) == length) {
                found++;
            }
        }
        return found;
    }

    private static int unlikeRuns(long bits, int size) {
        long lengthsOfZeros = 0;
        long lengthsOfOnes = 0;
        for (int i = 0; i < size; i++) {
            if (!beginsRun(bits, i)) {
                continue;
            }
            long length = 1L << runLength(bits, size, i);
            if ((bits >>> i & 1) == 1) {
                lengthsOfOnes |= length;
            } else {
                lengthsOfZeros |= length;
            }
        }
        return Long.bitCount(lengthsOfZeros) + Long.bitCount(lengthsOfOnes);
    }

    private static boolean beginsRun(long bits, int i) {
        return i == 0 || (bits >>> i & 1) != (bits >>> (i - 1) & 1);
    }

    private static long spoilt(long bits, int size, int seed, int n) {
        long row = bits;
        int z = seed;
        for (int i = 0; i < n && size > 0; i++) {
            z = z * 1103515245 + 12345;
            row ^= 1L << (z >>> 9) % size;
        }
        return row;
    }

    // ---- texts, inside

    private static boolean isByte(int v) {
        return between(v, 0, 255);
    }

    private boolean doClause(int word, int clause) {
        int a = tape.numberOf(clause, 0);
        int b = tape.numberOf(clause, 1);
        switch (word) {
            case Script.MACHINE: return machine(a, b, tape.numberOf(clause, 2), tape.numberOf(clause, 3)) >= 0;
            case Script.STATE_OF: return set(a, 0, b) != REFUSED;
            case Script.CARRY_OF: return set(a, 1, b) != REFUSED;
            case Script.TAPS_OF: return set(a, 2, b) != REFUSED;
            case Script.STEP: return step(a, b) >= 0;
            case Script.DROP: return drop() >= 0;
            default: return false;
        }
    }

    /** KIND 0; the other kinds stand under it and change what is summed or carried on. */
    private static class Carrying {
        final int kind;
        final int cells;
        int taps;
        int state = 0;
        int carry = 0;
        int digits = 0;

        Carrying(int kind, int cells, int taps) {
            this.kind = kind;
            this.cells = cells;
            this.taps = taps;
            leave(1);
            leave(3);
            if (taps == 1) {
                leave(2);
            }
        }

        final void leave(int digit) {
            digits = digits * 10 + digit;
        }

        final int links() {
            int links = -1;
            for (int j = 0; j < cells; j++) {
                links += (taps >> j & 1) << (cells - j);
            }
            return links;
        }

        final boolean standsAs(Carrying other) {
            return state == other.state && carry == other.carry;
        }

        int advance() {
            int bit = state & 1;
            int sum = sumOf(Integer.bitCount(state & taps));
            state = state >> 1 | (sum & 1) << (cells - 1);
            carry = carriedOf(sum);
            return bit;
        }

        int sumOf(int fed) {
            return fed + carry;
        }

        int carriedOf(int sum) {
            return sum >> 1;
        }
    }

    private static class Linear extends Carrying {
        Linear(int kind, int cells, int taps) {
            super(kind, cells, taps);
            leave(4);
        }

        int sumOf(int fed) {
            return fed;
        }

        int carriedOf(int sum) {
            return carry;
        }
    }

    private static final class Turned extends Linear {
        Turned(int cells, int taps) {
            super(TURNED, cells, taps);
            leave(5);
        }

        int sumOf(int fed) {
            return fed + 1;
        }
    }

    private static final class Borrowing extends Carrying {
        Borrowing(int cells, int taps) {
            super(BORROWING, cells, taps);
            leave(6);
        }

        int sumOf(int fed) {
            return carry - fed;
        }
    }

    private static final class Held extends Carrying {
        Held(int cells, int taps) {
            super(HELD, cells, taps);
            leave(7);
        }

        int carriedOf(int sum) {
            return Math.min(1, sum >> 1);
        }
    }

    private static final class Ring extends Carrying {
        Ring(int cells, int taps) {
            super(RING, cells, taps);
            leave(8);
        }

        int advance() {
            int bit = state & 1;
            int moved = state >> 1;
            int carried = carry & (1 << cells) - 1;
            int fed = bit == 1 ? taps : 0;
            state = moved ^ carried ^ fed;
            carry = moved & carried | moved & fed | carried & fed;
            return bit;
        }
    }

    /** A row of numbers, or missing; its room is made once. */
    private static final class Sheet {
        final int[] items = new int[MOST_BITS];
        int sort = NONE;
        int size = 0;

        boolean isMissing() {
            return sort == NONE;
        }

        boolean has(long from, long n) {
            return from >= 0 && n >= 0 && from + n <= size && size <= items.length;
        }

        void become(int newSort, int newSize) {
            sort = newSort;
            size = Math.min(newSize, items.length);
            for (int i = 0; i < items.length; i++) {
                items[i] = 0;
            }
        }

        void becomeRow(long bits, int newSize) {
            become(SHORTS, newSize);
            for (int i = 0; i < size && i < items.length; i++) {
                items[i] = (int) (bits >>> i & 1);
            }
        }

        long bits() {
            long bits = 0;
            for (int i = 0; i < size && i < items.length; i++) {
                bits |= (long) (items[i] & 1) << i;
            }
            return bits;
        }
    }

    /**
     * Finds the least fraction of a row. All pairs (p, q) whose digits begin like the row are points
     * of a lattice; among them q is odd. With the lattice's two shortest steps at hand, the least
     * such point is the short step itself or lies on the line of the long step and any number of
     * short ones, at its start or next to where p and q are as great.
     */
    private static final class Least {
        private static final int ROUNDS = 1000;
        long above = -1;
        long below = 1;
        private long shortAbove;
        private long shortBelow;
        private long longAbove;
        private long longBelow;

        void find(long bits, int size) {
            above = -1;
            below = 1;
            if (size < 1) {
                return;
            }
            below = 0;
            shorten(bits, 1L << size);
            offer(shortAbove, shortBelow);
            offerAround(0);
            offerAround(crossing(longAbove - longBelow, shortAbove - shortBelow));
            offerAround(crossing(longAbove + longBelow, shortAbove + shortBelow));
        }

        long greater() {
            return Math.max(below, Math.abs(above));
        }

        private void shorten(long bits, long whole) {
            shortAbove = bits;
            shortBelow = 1;
            longAbove = whole;
            longBelow = 0;
            for (int i = 0; i < ROUNDS; i++) {
                swapIfLonger();
                long square = shortAbove * shortAbove + shortBelow * shortBelow;
                long along = shortAbove * longAbove + shortBelow * longBelow;
                long times = square > 0 ? Math.floorDiv(2 * along + square, 2 * square) : 0;
                if (times == 0) {
                    return;
                }
                longAbove -= times * shortAbove;
                longBelow -= times * shortBelow;
            }
        }

        private void swapIfLonger() {
            long shortSquare = shortAbove * shortAbove + shortBelow * shortBelow;
            long longSquare = longAbove * longAbove + longBelow * longBelow;
            if (shortSquare <= longSquare) {
                return;
            }
            long a = shortAbove;
            long b = shortBelow;
            shortAbove = longAbove;
            shortBelow = longBelow;
            longAbove = a;
            longBelow = b;
        }

        private static long crossing(long start, long slope) {
            return slope == 0 ? 0 : Math.floorDiv(-start, slope);
        }

        private void offerAround(long times) {
            offer(longAbove + times * shortAbove, longBelow + times * shortBelow);
            offer(longAbove + (times + 1) * shortAbove, longBelow + (times + 1) * shortBelow);
        }

        private void offer(long p, long q) {
            if ((q & 1) == 0) {
                return;
            }
            long a = q < 0 ? -p : p;
            long b = q < 0 ? -q : q;
            if (below == 0 || isLess(a, b)) {
                above = a;
                below = b;
            }
        }

        private boolean isLess(long a, long b) {
            long size = Math.max(b, Math.abs(a));
            if (size != greater()) {
                return size < greater();
            }
            return b != below ? b < below : a < above;
        }
    }

    /** The least linear machine of a row, by Berlekamp's and Massey's way. */
    private static final class Law {
        int cells = 0;
        long taps = 0;

        void find(long bits, int size) {
            // Bit 0 stands for the bit itself, bit i for that i places ahead of it.
            long now = 1;
            long before = 1;
            long seen = 0;
            int since = 1;
            cells = 0;
            for (int i = 0; i < size; i++) {
                seen = seen << 1 | bits >>> i & 1;
                if ((Long.bitCount(now & seen) & 1) == 0) {
                    since++;
                } else if (2 * cells <= i) {
                    long kept = now;
                    now ^= before << since;
                    before = kept;
                    cells = i + 1 - cells;
                    since = 1;
                } else {
                    now ^= before << since;
                    since++;
                }
            }
            taps = now >>> 1;
        }
    }

    /** THE TAPE, and the clauses that were read from it. */
    private static final class Script {
        static final int MACHINE = 0, STATE_OF = 1, CARRY_OF = 2, TAPS_OF = 3, STEP = 4, DROP = 5;
        private static final int ROOM = 60, CLAUSES = 16, NUMBERS = 4, MOST_DIGITS = 2;
        private static final int END = 0, WORD = 1, NUMBER = 2, SIGN = 3, FAULTY = 4;

        final int[] bytes = new int[ROOM];
        int size = 0;
        int clauses = 0;
        private final int[] words = new int[CLAUSES];
        private final int[] numbers = new int[CLAUSES * NUMBERS];
        private int at = 0;
        private int token = END;
        private int tokenStart = 0;
        private int tokenValue = 0;

        boolean hasRoom(int n) {
            return size + n <= bytes.length;
        }

        void add(int v) {
            if (size >= 0 && size < bytes.length) {
                bytes[size] = v;
                size++;
            }
        }

        int wordOf(int clause) {
            return clause >= 0 && clause < words.length ? words[clause] : NONE;
        }

        int numberOf(int clause, int k) {
            int i = clause * NUMBERS + k;
            return i >= 0 && i < numbers.length ? numbers[i] : 0;
        }

        /** Reads the whole text into clauses: the place of its fault, or NONE. */
        int read() {
            at = 0;
            clauses = 0;
            for (int i = 0; i < CLAUSES; i++) {
                if (!readClause(i)) {
                    return tokenStart;
                }
                clauses = i + 1;
                readToken();
                if (token == END) {
                    return NONE;
                }
                if (token != SIGN) {
                    return tokenStart;
                }
            }
            return tokenStart;
        }

        private boolean readClause(int clause) {
            readToken();
            if (token != WORD || clause >= words.length) {
                return false;
            }
            words[clause] = tokenValue;
            int wanted = numbersOf(tokenValue);
            for (int k = 0; k < wanted; k++) {
                readToken();
                int i = clause * NUMBERS + k;
                if (token != NUMBER || i >= numbers.length) {
                    return false;
                }
                numbers[i] = tokenValue;
            }
            return true;
        }

        private static int numbersOf(int word) {
            switch (word) {
                case MACHINE: return 4;
                case DROP: return 0;
                default: return 2;
            }
        }

        private int byteAt(int i) {
            return i >= 0 && i < size && i < bytes.length ? bytes[i] : NONE;
        }

        private static boolean isLetter(int v) {
            return v >= 'a' && v <= 'z';
        }

        private static boolean isDigit(int v) {
            return v >= '0' && v <= '9';
        }

        private void readToken() {
            while (at < size && (byteAt(at) == 32 || byteAt(at) == 10)) {
                at++;
            }
            tokenStart = at;
            int first = byteAt(at);
            if (first == NONE) {
                token = END;
            } else if (isLetter(first)) {
                readWord();
            } else if (isDigit(first) || first == '-') {
                readNumber();
            } else {
                token = first == ';' ? SIGN : FAULTY;
                at++;
            }
        }

        private void readWord() {
            while (at < size && isLetter(byteAt(at))) {
                at++;
            }
            token = FAULTY;
            for (int word = MACHINE; word <= DROP; word++) {
                if (isNamed(nameOf(word))) {
                    token = WORD;
                    tokenValue = word;
                }
            }
        }

        private boolean isNamed(String name) {
            if (name.length() != at - tokenStart) {
                return false;
            }
            for (int i = 0; i < name.length(); i++) {
                if (name.charAt(i) != byteAt(tokenStart + i)) {
                    return false;
                }
            }
            return true;
        }

        private static String nameOf(int word) {
            switch (word) {
                case MACHINE: return "machine";
                case STATE_OF: return "state";
                case CARRY_OF: return "carry";
                case TAPS_OF: return "taps";
                case STEP: return "step";
                default: return "drop";
            }
        }

        private void readNumber() {
            boolean minus = byteAt(at) == '-';
            if (minus) {
                at++;
            }
            int digits = 0;
            int v = 0;
            while (at < size && isDigit(byteAt(at))) {
                // Digits beyond those that are allowed only make the number too long.
                v = digits < MOST_DIGITS ? v * 10 + byteAt(at) - '0' : v;
                digits++;
                at++;
            }
            token = digits >= 1 && digits <= MOST_DIGITS ? NUMBER : FAULTY;
            tokenValue = minus ? -v : v;
        }
    }
}
