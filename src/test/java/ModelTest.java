import java.util.ArrayList;
import java.util.Arrays;
import java.util.List;

/**
 * Drawn runs of calls, with wrong ones among them, against a model of the document that is written another way:
 * KINDS are real classes, PARTED is thrown, TEXTS are split where they join, a FAULT is sought by completing beginnings.
 */
public final class ModelTest {
    private static final int LOW = -1000000000;
    private static final int RUNS = 500;
    private static final int CALLS = 512;

    /** An ERROR on its way to told(). */
    private static final class Refusal extends RuntimeException {
        private static final long serialVersionUID = 1L;
        final int k;

        Refusal(int k) {
            super(null, null, false, false);
            this.k = k;
        }
    }

    private static void require(boolean holds, int k) {
        if (!holds) {
            throw new Refusal(k);
        }
    }

    // ---- KINDS as classes

    static class Farm {
        int k, m, steps, herd, dry, eased;
        List<Integer> trace;

        void began(int body) {
            if (trace.size() < 30) {
                trace.add(body);
            }
        }

        int gulps(int x) { began(10); return x + k; }
        int sips(int x) { began(11); return gulps(x) * 2; }
        int sighs(int x) { began(12); return sips(x) - m; }
        int parts(int x) { began(13); require(m != k, 6); return x / (m - k); }
        int grows(int hour) { return 1 + m / 3; }
        int pays() { return dry + steps; }

        static Farm make(int kind) {
            switch (kind) {
                case 1: return new Dairy();
                case 2: return new School();
                case 3: return new Inn();
                case 4: return new Bull();
                case 5: return new Feast();
                case 6: return new Hermit();
                default: return new Farm();
            }
        }

        static final List<Class<? extends Farm>> KINDS =
            List.of(Farm.class, Dairy.class, School.class, Inn.class, Bull.class, Feast.class, Hermit.class);

        int kind() { return KINDS.indexOf(getClass()); }

        Farm as(int kind) {
            Farm f = make(kind);
            f.k = k; f.m = m; f.steps = steps; f.herd = herd; f.dry = dry; f.eased = eased; f.trace = trace;
            return f;
        }
    }

    static class Dairy extends Farm {
        int gulps(int x) { began(20); return super.gulps(x) - 4; }
        int parts(int x) { began(21); return super.parts(x) + sips(1); }
        int grows(int hour) { return super.grows(hour) + herd / 4; }
    }

    static class School extends Farm {
        int sips(int x) { began(30); return 0 - super.sips(x); }
        int grows(int hour) { int h = hour % 24; return h < 8 || h > 14 ? super.grows(hour) : 2 * super.grows(hour); }
        int pays() { return super.pays() / 2; }
    }

    static class Inn extends Farm {
        int sighs(int x) { began(40); return super.sighs(x / 2); }
        int pays() { return super.pays() * 2; }
    }

    static class Bull extends Dairy {
        int gulps(int x) { began(50); return super.gulps(x) * 3; }
        int sighs(int x) { began(51); return super.sighs(x) ^ k; }
        int grows(int hour) { return super.grows(hour) + m; }
        int pays() { return super.pays() + 5; }
    }

    static class Feast extends School {
        int sips(int x) { began(60); return super.sips(x + 1); }
        int grows(int hour) { return super.grows(hour) + (hour % 7 == 0 ? 3 : 0); }
        int pays() { return super.pays() + herd; }
    }

    static class Hermit extends Farm {
        int gulps(int x) { began(70); return 9; }
        int sips(int x) { began(71); return super.sips(x) + m; }
        int grows(int hour) { return super.grows(hour) - 1; }
        int pays() { return 0; }
    }

    // ---- TEXTS by splitting

    private static final String[] SIGNS = {"|", "&", "<=>", "+-", "*/%"};

    /** The last place outside brackets where a sign of this rank stands, or -1. */
    private static int lastJoin(String t, int rank) {
        int open = 0;
        for (int i = t.length() - 1; i >= 0; i--) {
            char c = t.charAt(i);
            open += c == ')' ? 1 : c == '(' ? -1 : 0;
            if (open == 0 && SIGNS[rank].indexOf(c) >= 0) {
                return i;
            }
        }
        return -1;
    }

    private static boolean isText(String t, int rank, int open, String names) {
        if (rank == SIGNS.length) {
            if (t.matches("[0-9]{1,4}") || t.length() == 1 && names.contains(t)) {
                return true;
            }
            if (open == 5 || t.isEmpty()) {
                return false;
            }
            return t.charAt(0) == '!' && isText(t.substring(1), rank, open + 1, names)
                || t.charAt(0) == '(' && t.endsWith(")") && t.length() > 2
                && isText(t.substring(1, t.length() - 1), 0, open + 1, names);
        }
        int at = lastJoin(t, rank);
        if (at < 0) {
            return isText(t, rank + 1, open, names);
        }
        int left = rank == 2 ? rank + 1 : rank;
        return isText(t.substring(0, at), left, open, names) && isText(t.substring(at + 1), rank + 1, open, names);
    }

    private static boolean goesOn(String beginning, String names) {
        for (int brackets = 0; brackets <= 5; brackets++) {
            String end = ")".repeat(brackets);
            if (isText(beginning + end, 0, 0, names) || isText(beginning + "1" + end, 0, 0, names)) {
                return true;
            }
        }
        return false;
    }

    private static int fault(String t, String names) {
        if (isText(t, 0, 0, names)) {
            return -1;
        }
        for (int i = 0; i < t.length(); i++) {
            if (!goesOn(t.substring(0, i + 1), names)) {
                return i;
            }
        }
        return t.length();
    }

    private static int worth(String t, int rank, String names, int[] are) {
        if (rank == SIGNS.length) {
            char c = t.charAt(0);
            if (c == '!') {
                return worth(t.substring(1), rank, names, are) == 0 ? 1 : 0;
            }
            if (c == '(') {
                return worth(t.substring(1, t.length() - 1), 0, names, are);
            }
            return Character.isDigit(c) ? Integer.parseInt(t) : are[names.indexOf(c)];
        }
        int at = lastJoin(t, rank);
        if (at < 0) {
            return worth(t, rank + 1, names, are);
        }
        int a = worth(t.substring(0, at), rank, names, are);
        int b = worth(t.substring(at + 1), rank + 1, names, are);
        switch (t.charAt(at)) {
            case '|': return a != 0 | b != 0 ? 1 : 0;
            case '&': return a != 0 & b != 0 ? 1 : 0;
            case '<': return a < b ? 1 : 0;
            case '=': return a == b ? 1 : 0;
            case '>': return a > b ? 1 : 0;
            case '+': return (int) ((long) a + b);
            case '-': return (int) ((long) a - b);
            case '*': return (int) ((long) a * b);
            case '/': return b == 0 ? 0 : (int) ((long) a / b);
            default: return b == 0 ? 0 : (int) ((long) a % b);
        }
    }

    // ---- the model

    private static final class State {
        final List<Farm> farms = new ArrayList<>();
        final List<int[]> carriers = new ArrayList<>();
        final int[] water = new int[3];
        int hour, parched, z = 1;
        String tape = "";
        final String[] texts = new String[2];
        final List<Integer> waiting = new ArrayList<>();

        State copy() {
            State s = new State();
            for (Farm f : farms) {
                s.farms.add(f.as(f.kind()));
            }
            for (int[] c : carriers) {
                s.carriers.add(c.clone());
            }
            System.arraycopy(water, 0, s.water, 0, 3);
            s.hour = hour;
            s.parched = parched;
            s.z = z;
            s.tape = tape;
            s.texts[0] = texts[0];
            s.texts[1] = texts[1];
            s.waiting.addAll(waiting);
            return s;
        }

        int law(int use, int a, int b, int c) {
            int v = texts[use] == null ? a : worth(texts[use], 0, use == 0 ? "gdh" : "pds", new int[] {a, b, c});
            return Math.min(use == 0 ? 9 : 999, Math.max(0, v));
        }

        int pay(Farm f) {
            return law(1, f.pays(), f.dry, f.steps);
        }

        int growth(Farm f) {
            return law(0, f.grows(hour), f.dry, hour % 24);
        }

        void anHour() {
            for (Farm f : farms) {
                f.dry += growth(f);
                if (f.dry > 99) {
                    f.dry = 99;
                    parched = Math.min(99999, parched + 1);
                }
            }
            for (int i = 0; i < 3; i++) {
                water[i] = Math.min(999, water[i] + i + 1);
            }
            hour++;
        }

        int dry(int set) {
            int sum = 0;
            for (Farm f : farms) {
                sum += (set & 1 << f.k) == 0 ? 0 : f.dry;
            }
            return sum;
        }

        int pay(int set) {
            int sum = 0;
            for (Farm f : farms) {
                sum += (set & 1 << f.k) == 0 ? 0 : pay(f);
            }
            return sum;
        }

        int carry(int carrier, int set, int pool) {
            int load = dry(set);
            require(load <= carriers.get(carrier)[0] && load <= water[pool], 3);
            int pay = pay(set);
            water[pool] -= load;
            carriers.get(carrier)[1] = Math.min(99999, carriers.get(carrier)[1] + pay);
            for (Farm f : farms) {
                if ((set & 1 << f.k) != 0) {
                    f.eased = Math.min(99999, f.eased + f.dry);
                    f.dry = 0;
                }
            }
            return pay;
        }

        int draw() {
            z = z * 1103515245 + 12345;
            return z >>> 8;
        }

        int loose() {
            int pay = 0;
            if (!carriers.isEmpty() && !farms.isEmpty()) {
                int carrier = draw() % carriers.size();
                int set = draw() % (1 << farms.size());
                int pool = draw() % 3;
                try {
                    pay = set == 0 ? 0 : carry(carrier, set, pool);
                } catch (Refusal notLawful) {
                    pay = 0;
                }
            }
            anHour();
            return pay;
        }
    }

    /** A call by its name's number and up to five arguments, answered by the model. */
    private static final class Model {
        State s = new State();
        State kept;
        int images;
        final List<Integer> trace = new ArrayList<>();
        final int[][] sheets = new int[4][];
        final int[] bits = new int[4];
        final int[] told = new int[7];

        int answer(int call, long word, int[] a) {
            try {
                return answerOrRefuse(call, word, a);
            } catch (Refusal r) {
                told[r.k]++;
                return LOW - r.k;
            }
        }

        Farm farm(int i) {
            require(i >= 0 && i < s.farms.size(), 1);
            return s.farms.get(i);
        }

        int[] carrier(int i) {
            require(i >= 0 && i < s.carriers.size(), 1);
            return s.carriers.get(i);
        }

        void in(int v, int least, int most) {
            require(v >= least && v <= most, 1);
        }

        int[] sheet(int i) {
            in(i, 0, 3);
            require(sheets[i] != null, 2);
            return sheets[i];
        }

        int sets() {
            return 1 << s.farms.size();
        }

        int answerOrRefuse(int call, long word, int[] a) {
            if (call < 11) {
                return farms(call, a);
            }
            if (call < 19) {
                return textsAndHours(call, word, a);
            }
            return call < 26 ? wouldBe(call, a) : rest(call, a);
        }

        int farms(int call, int[] a) {
            switch (call) {
                case 0: {
                    in(a[0], 0, 69); in(a[1], 1, 40); in(a[2], 0, 30);
                    require(s.farms.size() < 7, 4);
                    Farm f = Farm.make(a[0] / 10);
                    f.k = s.farms.size(); f.m = a[0] % 10; f.steps = a[1]; f.herd = a[2]; f.trace = trace;
                    s.farms.add(f);
                    return f.k;
                }
                case 1: {
                    Farm f = farm(a[0]);
                    in(a[1], 0, 7);
                    return new int[] {f.kind(), f.m, f.steps, f.herd, f.dry, f.eased, s.growth(f), s.pay(f)}[a[1]];
                }
                case 2: {
                    Farm f = farm(a[0]);
                    in(a[1], 0, 69);
                    s.farms.set(a[0], f.as(a[1] / 10));
                    s.farms.get(a[0]).m = a[1] % 10;
                    return f.kind();
                }
                case 3: {
                    Farm f = farm(a[0]);
                    in(a[1], 0, 6);
                    require(Farm.KINDS.get(a[1]).isInstance(f), 5);
                    return f.m;
                }
                case 4: { Farm f = farm(a[0]); in(a[1], 0, 99); int was = f.dry; f.dry = a[1]; return was; }
                case 5: { Farm f = farm(a[0]); in(a[1], 0, 30); int was = f.herd; f.herd = a[1]; return was; }
                case 6: {
                    in(a[0], 1, 300);
                    require(s.carriers.size() < 4, 4);
                    s.carriers.add(new int[] {a[0], 0});
                    return s.carriers.size() - 1;
                }
                case 7: { int[] c = carrier(a[0]); in(a[1], 0, 1); return c[a[1]]; }
                case 8: { in(a[0], 0, 2); in(a[1], 0, 999); int was = s.water[a[0]]; s.water[a[0]] = a[1]; return was; }
                case 9: {
                    Farm one = farm(a[0]);
                    Farm other = farm(a[1]);
                    require(one != other, 1);
                    int was = one.dry;
                    one.dry = other.dry;
                    other.dry = was;
                    return one.dry;
                }
                default: carrier(a[0]); in(a[1], 1, sets() - 1); in(a[2], 0, 2); return s.carry(a[0], a[1], a[2]);
            }
        }

        int textsAndHours(int call, long word, int[] a) {
            switch (call) {
                case 11: {
                    in(a[0], 1, 8);
                    require(s.tape.length() + a[0] <= 60, 4);
                    for (int i = 0; i < a[0]; i++) {
                        s.tape += (char) (word >> 8 * i & 255);
                    }
                    return s.tape.length();
                }
                case 12: {
                    in(a[0], 0, 1);
                    String t = s.tape;
                    s.tape = "";
                    int fault = fault(t, a[0] == 0 ? "gdh" : "pds");
                    if (fault >= 0) {
                        return -10 - fault;
                    }
                    s.texts[a[0]] = t;
                    return 1;
                }
                case 13: { in(a[0], 0, 1); int was = s.texts[a[0]] == null ? 0 : 1; s.texts[a[0]] = null; return was; }
                case 14: in(a[0], 0, 1); return s.law(a[0], a[1], a[2], a[3]);
                case 15:
                    in(a[0], 1, 72);
                    require(s.hour + a[0] <= 9999, 3);
                    for (int i = 0; i < a[0]; i++) {
                        s.anHour();
                    }
                    return s.parched;
                case 16: {
                    in(a[0], 1, 24);
                    require(s.hour + a[0] <= 9999, 3);
                    int pay = 0;
                    for (int i = 0; i < a[0]; i++) {
                        pay += s.loose();
                    }
                    return pay;
                }
                case 17: { in(a[0], 0, 9999); int was = s.hour; s.hour = a[0]; return was; }
                default: { int was = s.z; s.z = a[0]; return was; }
            }
        }

        int wouldBe(int call, int[] a) {
            switch (call) {
                case 19: {
                    farm(a[0]);
                    in(a[1], 0, 72);
                    State t = s.copy();
                    for (int i = 0; i < a[1]; i++) {
                        t.anHour();
                    }
                    return t.farms.get(a[0]).dry;
                }
                case 20: {
                    in(a[0], 0, 99);
                    in(a[1], 0, 1);
                    State t = s.copy();
                    for (int n = 0; n <= 72; n++) {
                        for (Farm f : t.farms) {
                            if (f.dry > a[0]) {
                                return a[1] == 0 ? f.k : n;
                            }
                        }
                        t.anHour();
                    }
                    throw new Refusal(2);
                }
                case 21: {
                    int belly = carrier(a[0])[0];
                    in(a[1], 0, 1);
                    int best = 0;
                    for (int set = sets() - 1; set >= 0; set--) {
                        best = s.dry(set) <= belly && s.pay(set) >= s.pay(best) ? set : best;
                    }
                    return a[1] == 0 ? best : s.pay(best);
                }
                case 22: in(a[0], 0, 99); in(a[1], -1, 6); return fewest(a[0], a[1]);
                case 23: {
                    int belly = carrier(a[0])[0];
                    in(a[1], 0, 1);
                    require(sets() > 1, 3);
                    int all = sets() - 1;
                    int good = 0;
                    for (int set = 1; set <= all; set++) {
                        good += s.dry(set) <= belly ? 1 : 0;
                    }
                    for (int d = all; d > 1; d--) {
                        if (good % d == 0 && all % d == 0) {
                            return a[1] == 0 ? good / d : all / d;
                        }
                    }
                    return a[1] == 0 ? good : all;
                }
                case 24: {
                    in(a[0], 0, Integer.MAX_VALUE);
                    in(a[1], 0, 1);
                    List<Integer> found = new ArrayList<>();
                    for (int set = 1; set < sets(); set++) {
                        if (s.dry(set) == a[0]) {
                            found.add(set);
                        }
                    }
                    require(a[1] == 0 || !found.isEmpty(), 2);
                    return a[1] == 0 ? found.size() : found.get(0);
                }
                default: {
                    int[] row = sheet(a[0]);
                    require(row.length <= s.farms.size(), 2);
                    State t = s.copy();
                    for (int n = 0; n <= 72; n++) {
                        boolean so = true;
                        for (int i = 0; i < row.length; i++) {
                            so &= t.farms.get(i).dry == row[i];
                        }
                        if (so) {
                            return n;
                        }
                        t.anHour();
                    }
                    throw new Refusal(2);
                }
            }
        }

        /** All ways, counted up as numbers whose first digit is that of FARM 0. */
        int fewest(int x, int what) {
            int n = s.farms.size();
            int most = s.carriers.size();
            int[] best = null;
            int bestUsed = 99;
            int[] way = new int[7];
            for (int code = 0; code < Math.pow(most + 1, n); code++) {
                Arrays.fill(way, -1);
                int rest = code;
                for (int i = n - 1; i >= 0; i--) {
                    way[i] = rest % (most + 1) - 1;
                    rest /= most + 1;
                }
                int used = usedBy(way, x);
                if (used >= 0 && used < bestUsed) {
                    bestUsed = used;
                    best = way.clone();
                }
            }
            require(best != null, 2);
            return what < 0 ? bestUsed : best[what];
        }

        int usedBy(int[] way, int x) {
            int[] load = new int[4];
            boolean[] goes = new boolean[4];
            for (Farm f : s.farms) {
                if (f.dry > x != way[f.k] >= 0) {
                    return -1;
                }
                if (way[f.k] >= 0) {
                    load[way[f.k]] += f.dry;
                    goes[way[f.k]] = true;
                }
            }
            int used = 0;
            for (int i = 0; i < s.carriers.size(); i++) {
                if (load[i] > s.carriers.get(i)[0]) {
                    return -1;
                }
                used += goes[i] ? 1 : 0;
            }
            return used;
        }

        int rest(int call, int[] a) {
            switch (call) {
                case 26: {
                    Farm f = farm(a[0]);
                    in(a[1], 0, 3);
                    trace.clear();
                    return a[1] == 0 ? f.gulps(a[2]) : a[1] == 1 ? f.sips(a[2]) : a[1] == 2 ? f.sighs(a[2]) : f.parts(a[2]);
                }
                case 27: require(a[0] >= 0 && a[0] < trace.size(), 2); return trace.get(a[0]);
                case 28: {
                    in(a[0], 0, 3);
                    require(a[1] == 0 || a[1] == 8 || a[1] == 16 || a[1] == 32, 1);
                    require(a[1] == 0 || a[2] >= 0, 3);
                    require(a[1] == 0 || a[2] <= 24, 1);
                    sheets[a[0]] = a[1] == 0 ? null : new int[a[2]];
                    bits[a[0]] = a[1];
                    return 1;
                }
                case 29: {
                    int[] row = sheet(a[0]);
                    in(a[1], 0, row.length - 1);
                    row[a[1]] = a[2] << 32 - bits[a[0]] >> 32 - bits[a[0]];
                    return 1;
                }
                case 30: {
                    in(a[0], 0, 3);
                    in(a[2], 0, 3);
                    int[] from = sheet(a[0]).clone();
                    int[] to = sheet(a[2]);
                    require(bits[a[0]] == bits[a[2]], 5);
                    require(a[4] >= 0 && a[1] >= 0 && a[3] >= 0, 1);
                    require((long) a[1] + a[4] <= from.length && (long) a[3] + a[4] <= to.length, 1);
                    for (int i = 0; i < a[4]; i++) {
                        to[a[3] + i] = from[a[1] + i];
                    }
                    return a[4];
                }
                case 31: {
                    int done = 0;
                    for (int v : sheet(a[0])) {
                        if (v < 0 || v > 99 || done == s.farms.size()) {
                            break;
                        }
                        s.farms.get(done++).dry = v;
                    }
                    return done;
                }
                case 32: {
                    int right = 0;
                    for (int v : sheet(a[0])) {
                        if (right == s.farms.size() || s.pay(s.farms.get(right)) != v) {
                            break;
                        }
                        right++;
                    }
                    return right;
                }
                case 33: kept = s.copy(); return ++images;
                case 34: require(kept != null, 2); s = kept.copy(); return s.hour;
                case 35: require(s.waiting.size() < 24, 4); s.waiting.add(a[0]); return s.waiting.size();
                case 36: {
                    List<Integer> waited = new ArrayList<>(s.waiting);
                    s.waiting.clear();
                    for (int i = 0; i < waited.size(); i++) {
                        if (i >= s.carriers.size() || s.carriers.get(i)[1] != waited.get(i)) {
                            return 1 + i;
                        }
                    }
                    return 0;
                }
                case 37:
                    in(a[0], 0, 7);
                    return new int[] {s.farms.size(), s.carriers.size(), s.hour, s.parched, s.tape.length(),
                        s.waiting.size(), trace.size(), s.z}[a[0]];
                default: in(a[0], 1, 6); return told[a[0]];
            }
        }
    }

    // ---- the program

    private static int program(ThirstPay x, int call, long word, int[] a) {
        switch (call) {
            case 0: return x.farm(a[0], a[1], a[2]);
            case 1: return x.farmIs(a[0], a[1]);
            case 2: return x.become(a[0], a[1]);
            case 3: return x.as(a[0], a[1]);
            case 4: return x.parch(a[0], a[1]);
            case 5: return x.graze(a[0], a[1]);
            case 6: return x.carrier(a[0]);
            case 7: return x.carrierIs(a[0], a[1]);
            case 8: return x.pool(a[0], a[1]);
            case 9: return x.swap(a[0], a[1]);
            case 10: return x.carry(a[0], a[1], a[2]);
            case 11: return x.feed(word, a[0]);
            case 12: return x.text(a[0]);
            case 13: return x.untell(a[0]);
            case 14: return x.law(a[0], a[1], a[2], a[3]);
            case 15: return x.hours(a[0]);
            case 16: return x.loose(a[0]);
            case 17: return x.hour(a[0]);
            case 18: return x.seed(a[0]);
            case 19: return x.then(a[0], a[1]);
            default: return programLater(x, call, a);
        }
    }

    private static int programLater(ThirstPay x, int call, int[] a) {
        switch (call) {
            case 20: return x.first(a[0], a[1]);
            case 21: return x.round(a[0], a[1]);
            case 22: return x.fewest(a[0], a[1]);
            case 23: return x.odds(a[0], a[1]);
            case 24: return x.whose(a[0], a[1]);
            case 25: return x.fits(a[0]);
            case 26: return x.voice(a[0], a[1], a[2]);
            case 27: return x.body(a[0]);
            case 28: return x.sheet(a[0], a[1], a[2]);
            case 29: return x.put(a[0], a[1], a[2]);
            case 30: return x.move(a[0], a[1], a[2], a[3], a[4]);
            case 31: return x.parches(a[0]);
            case 32: return x.judge(a[0]);
            case 33: return x.image();
            case 34: return x.restore();
            case 35: return x.tell(a[0]);
            case 36: return x.check();
            case 37: return x.count(a[0]);
            default: return x.told(a[0]);
        }
    }

    // ---- draws of calls

    // How far each argument may go as a rule; -1 for any number at all.
    private static final int[][] REACH = {
        {69, 40, 30}, {6, 7}, {6, 69}, {6, 6}, {6, 99}, {6, 30}, {300}, {3, 1}, {2, 999}, {6, 6}, {3, 127, 2},
        {8}, {1}, {1}, {1, -1, -1, -1}, {72}, {24}, {9999}, {-1}, {6, 72},
        {99, 1}, {3, 1}, {99, 6}, {3, 1}, {300, 1}, {3}, {6, 3, -1}, {6}, {3, 32, 24}, {3, 8, 300}, {3, 8, 3, 8, 6},
        {3}, {3}, {}, {}, {-1}, {}, {7}, {6},
    };
    // Calls that ask are drawn more often than those that make room or take away.
    private static final int[] OFTEN = {
        0, 0, 0, 1, 1, 1, 1, 2, 3, 4, 4, 4, 5, 6, 6, 7, 7, 7, 8, 8, 8, 9, 10, 10, 10, 10, 11, 12, 13, 14, 14, 14, 15, 16, 16,
        17, 18, 19, 19, 20, 20, 21, 21, 22, 22, 23, 23, 24, 24, 25, 25, 26, 26, 26, 26, 27, 27, 27, 28, 28, 29, 29, 29,
        30, 30, 31, 31, 32, 32, 33, 34, 35, 36, 37, 37, 37, 38,
    };
    private static final int[] ODD = {-1, -2, 0, 1, 7, 8, 10, 24, 25, 70, 73, 100, 128, 255, 256, 1000, 10000,
        Integer.MIN_VALUE, Integer.MAX_VALUE, LOW - 1, LOW - 6};

    private static long drawn = 20261118L;

    private static int below(int n) {
        drawn = drawn * 6364136223846793005L + 1442695040888963407L;
        return (int) Long.remainderUnsigned(drawn >>> 20, n);
    }

    private static int argument(int reach) {
        if (below(25) == 0) {
            return ODD[below(ODD.length)];
        }
        if (reach < 0) {
            int kind = below(3);
            return kind == 0 ? below(Integer.MAX_VALUE) * 2 : kind == 1 ? below(40) - 20 : below(2000);
        }
        return below(reach + 1);
    }

    private static String someText(String names, int rank, int deep) {
        StringBuilder t = new StringBuilder();
        if (rank == SIGNS.length) {
            int kind = below(deep > 0 ? 8 : 6);
            if (kind < 3) {
                return t.append(names.charAt(below(3))).toString();
            }
            if (kind < 6) {
                return t.append(below(kind == 3 ? 10000 : 12)).toString();
            }
            return kind == 6 ? "!" + someText(names, rank, deep - 1) : "(" + someText(names, 0, deep - 1) + ")";
        }
        t.append(someText(names, rank + 1, deep));
        int more = below(5) == 0 ? 1 + (rank == 2 ? 0 : below(2)) : 0;
        for (int i = 0; i < more; i++) {
            t.append(SIGNS[rank].charAt(below(SIGNS[rank].length()))).append(someText(names, rank + 1, deep));
        }
        return t.toString();
    }

    private static String someTextOrNot(String names) {
        StringBuilder t = new StringBuilder(someText(names, 0, 6));
        String marks = "gdhps|&<=>+-*/%!()0123456789 \u00e9";
        int spoiled = below(3) == 0 ? 1 + below(2) : 0;
        for (int i = 0; i < spoiled && t.length() > 0; i++) {
            int at = below(t.length());
            char mark = marks.charAt(below(marks.length()));
            int kind = below(3);
            if (kind == 0) {
                t.setCharAt(at, mark);
            } else if (kind == 1) {
                t.insert(at, mark);
            } else {
                t.deleteCharAt(at);
            }
        }
        return t.toString();
    }

    private static int wrong = 0;
    private static final int[] well = new int[REACH.length];

    private static void same(ThirstPay x, Model m, int run, int call, long word, int... a) {
        int got = program(x, call, word, a);
        int want = m.answer(call, word, a);
        if (want >= LOW) {
            well[call]++;
        }
        if (got != want && wrong++ < 20) {
            System.out.println("run " + run + ": call " + call + " " + Arrays.toString(a) + " answered " + got + ", due is " + want);
        }
    }

    /** A text is fed by up to eight bytes a call, then read. */
    private static int tellText(ThirstPay x, Model m, int run) {
        int use = below(2);
        String t = someTextOrNot(use == 0 ? "gdh" : "pds");
        int calls = 1;
        for (int i = 0; i < t.length(); i += 8) {
            long word = 0;
            int n = Math.min(8, t.length() - i);
            for (int j = 0; j < n; j++) {
                word |= (long) t.charAt(i + j) << 8 * j;
            }
            same(x, m, run, 11, word, n);
            calls++;
        }
        same(x, m, run, 12, 0, use);
        return calls;
    }

    /** A SHEET that tells what is, or nearly, or what will be: by chance alone judge and fits would find nothing. */
    private static int tellSheet(ThirstPay x, Model m, int run) {
        int sheet = below(4);
        int n = Math.min(1 + below(7), m.s.farms.size());
        State ahead = m.s.copy();
        int hours = below(2) == 0 ? 0 : below(74);
        for (int i = 0; i < hours; i++) {
            ahead.anHour();
        }
        boolean pay = below(2) == 0;
        same(x, m, run, 28, 0, sheet, 8 << below(3), n);
        for (int i = 0; i < n; i++) {
            int v = pay ? m.s.pay(m.s.farms.get(i)) : ahead.farms.get(i).dry;
            same(x, m, run, 29, 0, sheet, i, below(20) == 0 ? v + 1 : v);
        }
        same(x, m, run, pay ? 32 : 25, 0, sheet);
        return n + 2;
    }

    private static int tellEarned(ThirstPay x, Model m, int run) {
        for (int[] c : m.s.carriers) {
            same(x, m, run, 35, 0, below(10) == 0 ? c[1] + 1 : c[1]);
        }
        same(x, m, run, 36, 0);
        return m.s.carriers.size() + 1;
    }

    private static void run(int run) {
        ThirstPay x = new ThirstPay();
        Model m = new Model();
        int farms = below(8);
        for (int i = 0; i < farms; i++) {
            same(x, m, run, 0, 0, below(70), 1 + below(40), below(31));
        }
        int most = run % 3 == 0 ? 60 : 300;
        for (int calls = farms; calls < CALLS - 24;) {
            int special = below(40);
            if (special == 0) {
                calls += tellText(x, m, run);
            } else if (special == 1) {
                calls += tellSheet(x, m, run);
            } else if (special == 2) {
                calls += tellEarned(x, m, run);
            } else {
                int call = OFTEN[below(OFTEN.length)];
                int[] a = new int[REACH[call].length];
                for (int i = 0; i < a.length; i++) {
                    a[i] = argument(call == 6 ? most : REACH[call][i]);
                }
                if (call == 28 && below(8) > 0) {
                    a[1] = 8 << below(3);
                }
                long word = (long) below(Integer.MAX_VALUE) << 32 ^ below(Integer.MAX_VALUE);
                same(x, m, run, call, word, a);
                calls++;
            }
        }
    }

    public static void main(String[] args) {
        for (int run = 0; run < RUNS; run++) {
            run(run);
        }
        for (int call = 0; call < well.length; call++) {
            if (well[call] < RUNS / 10) {
                wrong++;
                System.out.println("call " + call + " was answered only " + well[call] + " times without an ERROR");
            }
        }
        System.out.println(wrong == 0 ? "ModelTest: all answers are as due" : wrong + " are not as due");
        if (wrong != 0) {
            System.exit(1);
        }
    }
}
