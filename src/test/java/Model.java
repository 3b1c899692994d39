import java.util.ArrayList;
import java.util.Arrays;
import java.util.HashMap;
import java.util.LinkedHashMap;
import java.util.List;
import java.util.Map;
import java.util.TreeSet;
import java.util.regex.Matcher;
import java.util.regex.Pattern;

/**
 * The document once more, as literally and slowly as can be: bits in arrays, searches through all
 * there is, the library's maps. It shares no way of reckoning with CarryShifts.
 */
final class Model {
    static final int NONE = -1, BAD = -2, STATE = -3, FULL = -4;
    static final long NO = Long.MIN_VALUE;
    private static final int[] UNDER = {-1, 0, 1, 0, 0, 0};

    static final class Machine {
        int kind, cells, taps, state, carry;

        Machine(int kind, int cells, int taps, int state, int carry) {
            this.kind = kind;
            this.cells = cells;
            this.taps = taps;
            this.state = state;
            this.carry = carry;
        }

        Machine same() {
            return new Machine(kind, cells, taps, state, carry);
        }

        boolean isUnder(int k) {
            for (int at = kind; at >= 0; at = UNDER[at]) {
                if (at == k) {
                    return true;
                }
            }
            return false;
        }

        int links() {
            int sum = 0;
            for (int j = 0; j < cells; j++) {
                if (bit(taps, j) == 1) {
                    sum += (int) Math.pow(2, cells - j);
                }
            }
            return sum - 1;
        }

        int made() {
            String digits = "13";
            if (taps == 1) {
                digits += "2";
            }
            if (kind == 1 || kind == 2) {
                digits += "4";
            }
            String[] own = {"", "", "5", "6", "7", "8"};
            return Integer.parseInt(digits + own[kind]);
        }

        int step() {
            int[] was = new int[cells + 1];
            for (int i = 0; i < cells; i++) {
                was[i] = bit(state, i);
            }
            int told = was[0];
            int[] is = new int[cells];
            if (kind == 5) {
                int bits = 0;
                for (int i = 0; i < cells; i++) {
                    int sum = was[i + 1] + Math.floorMod(Math.floorDiv(carry, 1 << i), 2) + (bit(taps, i) == 1 ? told : 0);
                    is[i] = sum % 2;
                    bits += (sum / 2) << i;
                }
                carry = bits;
            } else {
                int fed = 0;
                for (int i = 0; i < cells; i++) {
                    fed += was[i] * bit(taps, i);
                }
                int sum = kind == 0 || kind == 4 ? fed + carry : kind == 1 ? fed : kind == 2 ? fed + 1 : carry - fed;
                for (int i = 0; i + 1 < cells; i++) {
                    is[i] = was[i + 1];
                }
                is[cells - 1] = Math.floorMod(sum, 2);
                if (kind == 0 || kind == 3) {
                    carry = Math.floorDiv(sum, 2);
                } else if (kind == 4) {
                    carry = Math.min(1, Math.floorDiv(sum, 2));
                }
            }
            state = 0;
            for (int i = 0; i < cells; i++) {
                state += is[i] << i;
            }
            return told;
        }

        int[] tells(int n) {
            Machine thought = same();
            int[] row = new int[n];
            for (int i = 0; i < n; i++) {
                row[i] = thought.step();
            }
            return row;
        }
    }

    static int bit(int v, int i) {
        return v >> i & 1;
    }

    List<Machine> machines = new ArrayList<>();
    List<Machine> image = null;
    Object[] sheets = new Object[4];
    List<Integer> tape = new ArrayList<>();

    private Machine at(int i) {
        return i >= 0 && i < machines.size() ? machines.get(i) : null;
    }

    private static boolean in(int v, int low, int high) {
        return low <= v && v <= high;
    }

    private boolean isSheet(int i) {
        return in(i, 0, 3);
    }

    int[] numbers(int sheet) {
        if (sheets[sheet] instanceof short[]) {
            short[] s = (short[]) sheets[sheet];
            int[] all = new int[s.length];
            for (int i = 0; i < s.length; i++) {
                all[i] = s[i];
            }
            return all;
        }
        return ((int[]) sheets[sheet]).clone();
    }

    int[] row(int sheet) {
        int[] all = numbers(sheet);
        for (int i = 0; i < all.length; i++) {
            all[i] &= 1;
        }
        return all;
    }

    private void write(int sheet, int[] bits) {
        short[] s = new short[bits.length];
        for (int i = 0; i < s.length; i++) {
            s[i] = (short) bits[i];
        }
        sheets[sheet] = s;
    }

    int machine(int kind, int cells, int taps, int state) {
        if (!in(kind, 0, 5) || !in(cells, 1, 6) || taps < 1 || taps >= 1 << cells || state < 0 || state >= 1 << cells) {
            return BAD;
        }
        if (machines.size() == 4) {
            return FULL;
        }
        machines.add(new Machine(kind, cells, taps, state, 0));
        return machines.size() - 1;
    }

    int drop() {
        if (machines.isEmpty()) {
            return STATE;
        }
        machines.remove(machines.size() - 1);
        return machines.size();
    }

    int set(int machine, int what, int v) {
        Machine m = at(machine);
        if (m == null || !in(what, 0, 3)) {
            return -1000;
        }
        int all = (1 << m.cells) - 1;
        int[] low = {0, -9, 1, 0};
        int[] high = {all, 9, all, 5};
        if (!in(v, low[what], high[what])) {
            return -1000;
        }
        int[] was = {m.state, m.carry, m.taps, m.kind};
        if (what == 0) {
            m.state = v;
        } else if (what == 1) {
            m.carry = v;
        } else if (what == 2) {
            m.taps = v;
        } else {
            m.kind = v;
        }
        return was[what];
    }

    int of(int machine, int what) {
        Machine m = at(machine);
        if (m == null || !in(what, 0, 6)) {
            return -1000;
        }
        return new int[] {m.kind, m.cells, m.taps, m.state, m.carry, m.made(), m.links()}[what];
    }

    int taken(int machine, int k) {
        if (at(machine) == null || !in(k, 0, 5)) {
            return BAD;
        }
        return at(machine).isUnder(k) ? at(machine).taps : -13;
    }

    int step(int machine, int n) {
        if (at(machine) == null || !in(n, 1, 30)) {
            return BAD;
        }
        int told = 0;
        for (int i = 0; i < n; i++) {
            told += at(machine).step() << i;
        }
        return told;
    }

    int then(int machine, int n, int what) {
        if (at(machine) == null || !in(n, 0, 40) || !in(what, 0, 2)) {
            return -1000;
        }
        Machine m = at(machine).same();
        for (int i = 0; i < n; i++) {
            m.step();
        }
        return what == 0 ? m.same().step() : what == 1 ? m.state : m.carry;
    }

    int film(int sheet, int machine, int n) {
        if (!isSheet(sheet) || at(machine) == null || !in(n, 0, 40)) {
            return BAD;
        }
        write(sheet, at(machine).tells(n));
        return n;
    }

    int mix(int sheet, int set, int n, int is) {
        if (!isSheet(sheet) || set < 0 || set >= 1 << machines.size() || !in(n, 0, 40) || !in(is, 0, 1)) {
            return BAD;
        }
        int[] sums = new int[n];
        for (int i = 0; i < machines.size(); i++) {
            if (bit(set, i) == 1) {
                int[] told = machines.get(i).tells(n);
                for (int k = 0; k < n; k++) {
                    sums[k] += told[k];
                }
            }
        }
        if (is == 1) {
            // With what is carried the rows are added as whole numbers.
            long sum = 0;
            for (int k = 0; k < n; k++) {
                sum += (long) sums[k] << k;
            }
            for (int k = 0; k < n; k++) {
                sums[k] = (int) (sum >> k & 1);
            }
        } else {
            for (int k = 0; k < n; k++) {
                sums[k] %= 2;
            }
        }
        write(sheet, sums);
        return n;
    }

    static long numberOf(int[] row) {
        long sum = 0;
        long value = 1;
        for (int b : row) {
            sum += b * value;
            value *= 2;
        }
        return sum;
    }

    long number(int sheet) {
        return !isSheet(sheet) || sheets[sheet] == null ? NO : numberOf(row(sheet));
    }

    static int[] digits(long p, long q, int n) {
        int[] all = new int[n];
        for (int i = 0; i < n; i++) {
            all[i] = (int) Math.floorMod(p, 2L);
            p = Math.floorDiv(p - all[i] * q, 2L);
        }
        return all;
    }

    int expand(int sheet, int p, int q, int n) {
        if (!isSheet(sheet) || !in(n, 0, 40) || !in(p, -9999, 9999) || !in(q, 1, 9999)) {
            return BAD;
        }
        if (q % 2 == 0) {
            return STATE;
        }
        write(sheet, digits(p, q, n));
        return n;
    }

    int period(int p, int q, int what) {
        if (!in(what, 0, 1) || !in(p, -9999, 9999) || !in(q, 1, 9999)) {
            return BAD;
        }
        if (q % 2 == 0) {
            return STATE;
        }
        List<Integer> seen = new ArrayList<>();
        int ahead = -1;
        int start = 0;
        while (true) {
            if (ahead < 0 && p <= 0 && p >= -q) {
                ahead = seen.size();
                start = p;
            } else if (ahead >= 0 && p == start) {
                return what == 0 ? seen.size() - ahead : ahead;
            }
            seen.add(p);
            p = (p - Math.floorMod(p, 2) * q) / 2;
        }
    }

    /** p, q: by every q that could still be as good, and both of the p nearest to 0. */
    static long[] least(int[] row) {
        long whole = 1L << row.length;
        long number = numberOf(row);
        long bestSize = Long.MAX_VALUE;
        long[] best = null;
        for (long q = 1; q <= bestSize; q += 2) {
            long high = number * q % whole;
            // Of an empty row every p is right: the next ones below 0 must be tried too.
            for (long p = high - 2 * whole; p <= high + whole; p += whole) {
                long size = Math.max(q, Math.abs(p));
                if (size < bestSize || size == bestSize && (q < best[1] || q == best[1] && p < best[0])) {
                    bestSize = size;
                    best = new long[] {p, q};
                }
            }
        }
        return best;
    }

    long fraction(int sheet, int what) {
        if (!isSheet(sheet) || !in(what, 0, 3) || sheets[sheet] == null || row(sheet).length > 24) {
            return NO;
        }
        long[] f = least(row(sheet));
        long size = Math.max(f[1], Math.abs(f[0]));
        return new long[] {f[0], f[1], size, Long.toBinaryString(size).length()}[what];
    }

    static long gcd(long a, long b) {
        return b == 0 ? Math.abs(a) : gcd(b, a % b);
    }

    /** Of 60 told bits LINKS times their number is, modulo 2 to the 60, what stands above the line. */
    static long[] toldBy(Machine m) {
        long q = m.links();
        long told = numberOf(m.tells(60));
        long above = q * told << 4 >> 4;
        long g = gcd(above, q);
        return new long[] {above / g, q / g};
    }

    long told(int machine, int part) {
        if (at(machine) == null || !in(part, 0, 1) || at(machine).kind != 0) {
            return NO;
        }
        return toldBy(at(machine))[part];
    }

    int build(int sheet) {
        if (!isSheet(sheet)) {
            return BAD;
        }
        if (sheets[sheet] == null) {
            return -11;
        }
        if (row(sheet).length > 24) {
            return BAD;
        }
        if (machines.size() == 4) {
            return FULL;
        }
        long[] f = least(row(sheet));
        int cells = Long.toBinaryString(f[1] + 1).length() - 1;
        if (cells > 6) {
            return STATE;
        }
        int state = (int) numberOf(digits(f[0], f[1], cells));
        for (int taps = 1; taps < 1 << cells; taps++) {
            for (int carry = -9; carry <= 9; carry++) {
                Machine m = new Machine(0, cells, taps, state, carry);
                if (m.links() == f[1] && Arrays.equals(m.tells(60), digits(f[0], f[1], 60))) {
                    machines.add(m);
                    return machines.size() - 1;
                }
            }
        }
        return STATE;
    }

    int cycle(int machine, int what) {
        if (at(machine) == null || !in(what, 0, 1)) {
            return BAD;
        }
        Machine m = at(machine).same();
        Map<String, Integer> seen = new HashMap<>();
        for (int i = 0;; i++) {
            Integer before = seen.put(m.state + " " + m.carry, i);
            if (before != null) {
                return what == 0 ? i - before : before;
            }
            m.step();
        }
    }

    /** The law of L cells as c 1, .., c L, by clearing the columns one by one; null if none holds. */
    static int[] lawOf(int[] row, int cells) {
        List<int[]> lines = new ArrayList<>();
        for (int n = cells; n < row.length; n++) {
            int[] line = new int[cells + 1];
            for (int i = 1; i <= cells; i++) {
                line[i - 1] = row[n - i];
            }
            line[cells] = row[n];
            lines.add(line);
        }
        int[] law = new int[cells];
        int top = 0;
        int[] lead = new int[cells];
        Arrays.fill(lead, -1);
        for (int c = 0; c < cells; c++) {
            int pick = -1;
            for (int k = top; k < lines.size(); k++) {
                if (lines.get(k)[c] == 1) {
                    pick = k;
                    break;
                }
            }
            if (pick < 0) {
                continue;
            }
            int[] chosen = lines.get(pick);
            lines.set(pick, lines.get(top));
            lines.set(top, chosen);
            for (int k = 0; k < lines.size(); k++) {
                if (k != top && lines.get(k)[c] == 1) {
                    for (int x = 0; x <= cells; x++) {
                        lines.get(k)[x] ^= chosen[x];
                    }
                }
            }
            lead[c] = top++;
        }
        for (int k = top; k < lines.size(); k++) {
            if (lines.get(k)[cells] == 1) {
                return null;
            }
        }
        for (int c = 0; c < cells; c++) {
            law[c] = lead[c] < 0 ? 0 : lines.get(lead[c])[cells];
        }
        return law;
    }

    static int cellsOf(int[] row) {
        int cells = 0;
        while (lawOf(row, cells) == null) {
            cells++;
        }
        return cells;
    }

    static long linearOf(int[] row, int what) {
        int cells = cellsOf(row);
        if (what == 0) {
            return cells;
        }
        return 2 * cells > row.length ? NONE : numberOf(lawOf(row, cells));
    }

    long linear(int sheet, int what) {
        if (!isSheet(sheet) || !in(what, 0, 1) || sheets[sheet] == null) {
            return NO;
        }
        return linearOf(row(sheet), what);
    }

    long twin(int machine, int n, int what) {
        if (at(machine) == null || !in(n, 0, 40) || !in(what, 0, 1)) {
            return NO;
        }
        return linearOf(at(machine).tells(n), what);
    }

    int compare(int sheet) {
        if (!isSheet(sheet)) {
            return -1000;
        }
        if (sheets[sheet] == null) {
            return -1011;
        }
        if (row(sheet).length > 24) {
            return -1000;
        }
        return (int) (fraction(sheet, 3) - linear(sheet, 0));
    }

    private static String textOf(int[] row) {
        StringBuilder text = new StringBuilder();
        for (int b : row) {
            text.append(b);
        }
        return text.toString();
    }

    int windows(int sheet, int w, int what) {
        if (!isSheet(sheet) || !in(w, 1, 8) || !in(what, 0, 2)) {
            return BAD;
        }
        if (sheets[sheet] == null) {
            return -11;
        }
        String text = textOf(row(sheet));
        Map<String, Integer> times = new LinkedHashMap<>();
        for (int i = 0; i + w <= text.length(); i++) {
            times.merge(text.substring(i, i + w), 1, Integer::sum);
        }
        if (what == 0) {
            return times.size();
        }
        String best = null;
        for (String word : times.keySet()) {
            if (best == null || times.get(word) > times.get(best)) {
                best = word;
            }
        }
        if (best == null) {
            return NONE;
        }
        return what == 2 ? times.get(best) : Integer.parseInt(new StringBuilder(best).reverse().toString(), 2);
    }

    int runs(int sheet, int bit, int length) {
        if (!isSheet(sheet) || !in(bit, -1, 1)) {
            return BAD;
        }
        if (sheets[sheet] == null) {
            return -11;
        }
        Matcher runs = Pattern.compile("0+|1+").matcher(textOf(row(sheet)));
        TreeSet<String> unlike = new TreeSet<>();
        int found = 0;
        while (runs.find()) {
            unlike.add(runs.group());
            if (runs.group().length() == length && runs.group().charAt(0) == '0' + bit) {
                found++;
            }
        }
        return bit == NONE ? unlike.size() : found;
    }

    int replays(int machine, int sheet, int what) {
        if (at(machine) == null || !isSheet(sheet) || !in(what, 0, 2)) {
            return BAD;
        }
        if (sheets[sheet] == null) {
            return -11;
        }
        int[] row = row(sheet);
        Machine m = at(machine);
        if (what == 0) {
            return Arrays.mismatch(m.tells(row.length), row);
        }
        int found = 0;
        for (int i = 0; i < (what == 1 ? 6 : 19); i++) {
            Machine other = m.same();
            if (what == 1) {
                other.kind = i;
            } else {
                other.carry = i - 9;
            }
            found += Arrays.equals(other.tells(row.length), row) ? 1 << i : 0;
        }
        return found;
    }

    int search(int sheet, int kind, int cells) {
        if (!isSheet(sheet) || !in(kind, 0, 5) || !in(cells, 1, 6)) {
            return BAD;
        }
        if (sheets[sheet] == null) {
            return -11;
        }
        int[] row = row(sheet);
        if (row.length < cells) {
            return STATE;
        }
        int state = (int) numberOf(Arrays.copyOf(row, cells));
        for (int taps = 1; taps < 1 << cells; taps++) {
            for (int carry = -9; carry <= 9; carry++) {
                if (Arrays.equals(new Machine(kind, cells, taps, state, carry).tells(row.length), row)) {
                    return 100 * taps + carry + 9;
                }
            }
        }
        return NONE;
    }

    int alike(int machine, int n) {
        if (at(machine) == null || !in(n, 0, 40)) {
            return BAD;
        }
        int found = 0;
        for (int i = 0; i < machines.size(); i++) {
            found += Arrays.equals(machines.get(i).tells(n), at(machine).tells(n)) ? 1 << i : 0;
        }
        return found;
    }

    private static int[] spoil(int[] row, int seed, int n) {
        int[] other = row.clone();
        for (int i = 0; i < n; i++) {
            seed = seed * 1103515245 + 12345;
            int place = (seed >>> 9) % other.length;
            other[place] = 1 - other[place];
        }
        return other;
    }

    int drawn(int sheet, int seed, int n) {
        if (!isSheet(sheet) || !in(n, 0, 8)) {
            return BAD;
        }
        if (sheets[sheet] == null) {
            return -11;
        }
        int[] row = row(sheet);
        return row.length == 0 ? STATE : cellsOf(spoil(row, seed, n));
    }

    int chance(int sheet, int seed, int m, int n, int k, int part) {
        if (!isSheet(sheet) || !in(m, 1, 20) || !in(n, 0, 8) || !in(k, 0, 40) || !in(part, 0, 1)) {
            return BAD;
        }
        if (sheets[sheet] == null) {
            return -11;
        }
        int[] row = row(sheet);
        if (row.length == 0) {
            return STATE;
        }
        int few = 0;
        for (int i = 0; i < m; i++) {
            few += cellsOf(spoil(row, seed + i, n)) <= k ? 1 : 0;
        }
        long g = gcd(few, m);
        return (int) ((part == 0 ? few : m) / g);
    }

    int feed(int n, int a, int b, int c, int d, int e) {
        int[] all = {a, b, c, d, e};
        if (!in(n, 1, 5)) {
            return BAD;
        }
        for (int v : all) {
            if (!in(v, 0, 255)) {
                return BAD;
            }
        }
        if (tape.size() + n > 60) {
            return FULL;
        }
        for (int i = 0; i < n; i++) {
            tape.add(all[i]);
        }
        return tape.size();
    }

    int text() {
        StringBuilder text = new StringBuilder();
        for (int b : tape) {
            text.append((char) b);
        }
        tape.clear();
        return read(text.toString());
    }

    /** By the library's patterns: tokens first, each with its place, then the clauses. */
    private int read(String text) {
        List<String> names = List.of("machine", "state", "carry", "taps", "step", "drop");
        int[] wanted = {4, 2, 2, 2, 2, 0};
        Matcher tokens = Pattern.compile("[a-z]+|-?[0-9]+|;|[^ \n]", Pattern.DOTALL).matcher(text);
        List<List<Integer>> clauses = new ArrayList<>();
        List<Integer> clause = null;
        while (tokens.find()) {
            String token = tokens.group();
            boolean full = clause != null && clause.size() == 1 + wanted[clause.get(0)];
            if (clause == null && names.contains(token)) {
                clause = new ArrayList<>(List.of(names.indexOf(token)));
                clauses.add(clause);
            } else if (clause != null && !full && token.matches("-?[0-9]{1,2}")) {
                clause.add(Integer.parseInt(token));
            } else if (full && token.equals(";")) {
                clause = null;
            } else {
                return -100 - tokens.start();
            }
        }
        if (clause == null || clause.size() != 1 + wanted[clause.get(0)]) {
            return -100 - text.length();
        }
        int did = 0;
        for (List<Integer> c : clauses) {
            did += does(c) ? 1 : 0;
        }
        return did;
    }

    private boolean does(List<Integer> c) {
        switch (c.get(0)) {
            case 0: return machine(c.get(1), c.get(2), c.get(3), c.get(4)) >= 0;
            case 4: return step(c.get(1), c.get(2)) != BAD;
            case 5: return drop() != STATE;
            default: return set(c.get(1), c.get(0) - 1, c.get(2)) != -1000;
        }
    }

    int image() {
        image = new ArrayList<>();
        for (Machine m : machines) {
            image.add(m.same());
        }
        return image.size();
    }

    int back() {
        if (image == null) {
            return STATE;
        }
        machines.clear();
        for (Machine m : image) {
            machines.add(m.same());
        }
        return machines.size();
    }

    int load(int sheet, int sort, int from, int n) {
        if (!isSheet(sheet) || !in(sort, 0, 1) || !in(n, 0, 4)) {
            return BAD;
        }
        if (sheets[sheet] == null) {
            return -11;
        }
        if (sheets[sheet] instanceof short[] != (sort == 0)) {
            return -13;
        }
        int[] all = numbers(sheet);
        int came = 0;
        for (int i = 0; i < n; i++) {
            int[] four = new int[4];
            for (int k = 0; k < 4; k++) {
                long place = (long) from + 4 * i + k;
                if (place < 0 || place >= all.length) {
                    return -12;
                }
                four[k] = all[(int) place];
            }
            came += machine(four[0], four[1], four[2], four[3]) >= 0 ? 1 : 0;
        }
        return came;
    }

    int count(int what) {
        int cells = 0;
        int linear = 0;
        int rings = 0;
        for (int i = 0; i < machines.size(); i++) {
            Machine m = machines.get(i);
            cells += m.cells;
            linear += m.kind == 1 || m.kind == 2 ? 1 << i : 0;
            rings += m.kind == 5 ? m.cells : 0;
        }
        return in(what, 0, 4) ? new int[] {machines.size(), tape.size(), cells, linear, rings}[what] : BAD;
    }

    int sheet(int sheet, int sort, int n) {
        if (!isSheet(sheet) || !in(sort, -1, 1) || sort >= 0 && n > 40) {
            return BAD;
        }
        if (sort >= 0 && n < 0) {
            return -14;
        }
        sheets[sheet] = sort < 0 ? null : sort == 0 ? new short[n] : new int[n];
        return 1;
    }

    int put(int sheet, int i, int v) {
        if (!isSheet(sheet)) {
            return BAD;
        }
        if (sheets[sheet] == null) {
            return -11;
        }
        if (!in(i, 0, numbers(sheet).length - 1)) {
            return -12;
        }
        if (sheets[sheet] instanceof short[]) {
            ((short[]) sheets[sheet])[i] = (short) v;
        } else {
            ((int[]) sheets[sheet])[i] = v;
        }
        return 1;
    }

    int copy(int sheet, int i, int other, int j, int n) {
        if (!isSheet(sheet) || !isSheet(other)) {
            return BAD;
        }
        if (sheets[sheet] == null || sheets[other] == null) {
            return -11;
        }
        try {
            System.arraycopy(sheets[sheet], i, sheets[other], j, n);
        } catch (ArrayStoreException unlike) {
            return -13;
        } catch (IndexOutOfBoundsException outside) {
            return -12;
        }
        return n;
    }
}
