import java.util.function.Supplier;

/**
 * Each call that is refused: it answers the ERROR that is asked first, told() tells one more of that and no more of
 * the others, and all else is as it would be without the call: two objects made alike, one of them with the call.
 */
public final class RefusalsTest extends Checks {
    private static final int MIN = Integer.MIN_VALUE;
    private static final int MAX = Integer.MAX_VALUE;

    private interface Act {
        int on(ThirstPay x);
    }

    private static Supplier<ThirstPay> ready;
    private static String untouched;

    public static void main(String[] args) {
        onNew();
        onBusyFarms();
        onBusyTextsAndHours();
        onBusyThoughts();
        onBusySheets();
        onFull();
        onLate();
        parted();
        end("RefusalsTest");
    }

    private static void from(Supplier<ThirstPay> made) {
        ready = made;
        untouched = seen(made.get());
    }

    private static void refused(int promise, String call, int error, Act act) {
        ThirstPay x = ready.get();
        int[] before = new int[7];
        for (int k = 1; k <= 6; k++) {
            before[k] = x.told(k);
        }
        due(promise, call, act.on(x), error);
        for (int k = 1; k <= 6; k++) {
            due(40, "told(" + k + ") behind " + call, x.told(k), before[k] + (LOW - k == error ? 1 : 0));
        }
        due(promise, "all behind " + call, seen(x), untouched);
    }

    // ---- all that can be seen of an object; what is seen last is used up by seeing it

    private static String seen(ThirstPay x) {
        StringBuilder s = new StringBuilder();
        seeCounts(x, s);
        for (int i = 0; i < 8; i++) {
            s.append(" body ").append(x.body(i));
        }
        seeFarms(x, s);
        seeSheets(x, s);
        s.append(" check ").append(x.check()).append(" text ").append(x.text(0)).append(" laws");
        seeLaws(x, s);
        s.append(" restore ").append(x.restore());
        seeCounts(x, s);
        seeFarms(x, s);
        return s.append(" image ").append(x.image()).toString();
    }

    private static void seeCounts(ThirstPay x, StringBuilder s) {
        s.append(" counts");
        for (int i = 0; i < 8; i++) {
            s.append(' ').append(x.count(i));
        }
    }

    private static void seeFarms(ThirstPay x, StringBuilder s) {
        int farms = x.count(0);
        for (int farm = 0; farm < farms; farm++) {
            s.append(" farm");
            for (int what = 0; what < 8; what++) {
                s.append(' ').append(x.farmIs(farm, what));
            }
        }
        int carriers = x.count(1);
        for (int carrier = 0; carrier < carriers; carrier++) {
            s.append(" carrier ").append(x.carrierIs(carrier, 0)).append(' ').append(x.carrierIs(carrier, 1));
        }
        for (int pool = 0; pool < 3; pool++) {
            int water = x.pool(pool, 0);
            x.pool(pool, water);
            s.append(" pool ").append(water);
        }
        seeLaws(x, s);
    }

    private static void seeLaws(ThirstPay x, StringBuilder s) {
        s.append(" law ").append(x.law(0, 2, 3, 5)).append(' ').append(x.law(0, 7, 0, 1));
        s.append(' ').append(x.law(1, 20, 30, 50)).append(' ').append(x.law(1, 700, 0, 10));
    }

    private static void seeSheets(ThirstPay x, StringBuilder s) {
        for (int sheet = 0; sheet < 4; sheet++) {
            s.append(" sheet");
            for (int n = 0; n < 5; n++) {
                s.append(' ').append(x.move(sheet, 0, sheet, 0, n));
            }
            for (int other = 0; other < sheet; other++) {
                s.append(' ').append(x.move(sheet, 0, other, 0, 0));
            }
            int read = x.parches(sheet);
            for (int i = 0; i < read; i++) {
                s.append(' ').append(x.farmIs(i, 4));
            }
        }
    }

    // ---- objects made ready

    private static ThirstPay busy() {
        ThirstPay x = new ThirstPay();
        x.farm(5, 4, 0);
        x.farm(13, 7, 9);
        x.farm(32, 12, 2);
        carriers(x, 40, 60);
        x.pool(0, 500);
        x.pool(1, 30);
        x.parch(0, 11);
        x.carry(1, 1, 0);
        text(x, 1, "p+d");
        feed(x, "g+1");
        x.tell(0);
        x.tell(15);
        sheet(x, 0, 8, 1, 2, 3);
        sheet(x, 1, 16, 4, 5, 6);
        x.sheet(2, 16, 0);
        x.seed(77);
        x.image();
        x.voice(1, 2, 7);
        x.parch(0, 20);
        x.parch(1, 30);
        x.hour(9990);
        return x;
    }

    private static ThirstPay full() {
        ThirstPay x = new ThirstPay();
        for (int i = 0; i < 7; i++) {
            x.farm(10 * i + 4, i + 1, 3 * i);
            x.parch(i, 99);
        }
        carriers(x, 100, 10, 20, 30);
        feedWords(x, "1+1+1+1+1+1+1+1+1+1+1+1+1+1+1+1+1+1+1+1+1+1+1+1+1+1+1+1+1+10");
        for (int i = 0; i < 24; i++) {
            x.tell(0);
        }
        x.image();
        return x;
    }

    private static ThirstPay late() {
        ThirstPay x = busy();
        x.hour(9999);
        return x;
    }

    // ---- promise by promise

    private static void onNew() {
        from(ThirstPay::new);
        refused(3, "farmIs(0, 0) of none", BEYOND, x -> x.farmIs(0, 0));
        refused(4, "become(0, 0) of none", BEYOND, x -> x.become(0, 0));
        refused(5, "as(0, 0) of none", BEYOND, x -> x.as(0, 0));
        refused(6, "parch(0, 0) of none", BEYOND, x -> x.parch(0, 0));
        refused(7, "graze(0, 0) of none", BEYOND, x -> x.graze(0, 0));
        refused(9, "carrierIs(0, 0) of none", BEYOND, x -> x.carrierIs(0, 0));
        refused(11, "swap(0, 1) of none", BEYOND, x -> x.swap(0, 1));
        refused(12, "carry(0, 1, 0) of none", BEYOND, x -> x.carry(0, 1, 0));
        refused(21, "then(0, 0) of none", BEYOND, x -> x.then(0, 0));
        refused(22, "first(0, 0) of none", NONE, x -> x.first(0, 0));
        refused(22, "first(0, 1) of none", NONE, x -> x.first(0, 1));
        refused(22, "first(100, 0) of none", BEYOND, x -> x.first(100, 0));
        refused(22, "first(0, 2) of none", BEYOND, x -> x.first(0, 2));
        refused(23, "round(0, 0) of none", BEYOND, x -> x.round(0, 0));
        refused(25, "odds(0, 0) of none", BEYOND, x -> x.odds(0, 0));
        refused(26, "whose(0, 1) of none", NONE, x -> x.whose(0, 1));
        refused(26, "whose(-1, 1) of none", BEYOND, x -> x.whose(-1, 1));
        refused(27, "fits(0), missing", NONE, x -> x.fits(0));
        refused(28, "voice(0, 0, 0) of none", BEYOND, x -> x.voice(0, 0, 0));
        refused(29, "body(0) of none", NONE, x -> x.body(0));
        refused(31, "put(0, 0, 0), missing", NONE, x -> x.put(0, 0, 0));
        refused(32, "move(0, 0, 1, 0, 0), missing", NONE, x -> x.move(0, 0, 1, 0, 0));
        refused(33, "parches(0), missing", NONE, x -> x.parches(0));
        refused(34, "judge(0), missing", NONE, x -> x.judge(0));
        refused(36, "restore() without an IMAGE", NONE, ThirstPay::restore);
        from(RefusalsTest::carrierAlone);
        refused(25, "odds(0, 0) without FARMS", STATE, x -> x.odds(0, 0));
        refused(25, "odds(0, 1) without FARMS", STATE, x -> x.odds(0, 1));
        refused(25, "odds(1, 0) without FARMS", BEYOND, x -> x.odds(1, 0));
        refused(25, "odds(0, 2) without FARMS", BEYOND, x -> x.odds(0, 2));
        refused(12, "carry(0, 1, 0) without FARMS", BEYOND, x -> x.carry(0, 1, 0));
    }

    private static ThirstPay carrierAlone() {
        ThirstPay x = new ThirstPay();
        x.carrier(9);
        return x;
    }

    private static void onBusyFarms() {
        from(RefusalsTest::busy);
        int[] farms = {-1, 3, 7, MIN, MAX};
        for (int f : farms) {
            refused(3, "farmIs " + f, BEYOND, x -> x.farmIs(f, 0));
            refused(4, "become " + f, BEYOND, x -> x.become(f, 0));
            refused(5, "as " + f, BEYOND, x -> x.as(f, 0));
            refused(6, "parch " + f, BEYOND, x -> x.parch(f, 0));
            refused(7, "graze " + f, BEYOND, x -> x.graze(f, 0));
            refused(11, "swap " + f, BEYOND, x -> x.swap(f, 0));
            refused(11, "swap with " + f, BEYOND, x -> x.swap(0, f));
            refused(11, "swap of one and the same, not there: " + f, BEYOND, x -> x.swap(f, f));
        }
        int[] kindsAndMs = {-1, 70, 71, MIN, MAX};
        for (int km : kindsAndMs) {
            refused(2, "farm " + km, BEYOND, x -> x.farm(km, 1, 0));
            refused(4, "become " + km, BEYOND, x -> x.become(0, km));
        }
        int[] steps = {0, -1, 41, MIN, MAX};
        for (int s : steps) {
            refused(2, "farm with STEPS " + s, BEYOND, x -> x.farm(0, s, 0));
        }
        int[] herds = {-1, 31, MIN, MAX};
        for (int h : herds) {
            refused(2, "farm with a HERD of " + h, BEYOND, x -> x.farm(0, 1, h));
            refused(7, "graze " + h, BEYOND, x -> x.graze(0, h));
        }
        int[] whats = {-1, 8, MIN, MAX};
        for (int w : whats) {
            refused(3, "farmIs what " + w, BEYOND, x -> x.farmIs(0, w));
            refused(39, "count " + w, BEYOND, x -> x.count(w));
        }
        int[] kinds = {-1, 7, MIN, MAX};
        for (int k : kinds) {
            refused(5, "as " + k, BEYOND, x -> x.as(0, k));
        }
        refused(5, "a FARM as a DAIRY", KIND, x -> x.as(0, 1));
        refused(5, "a DAIRY as a BULL", KIND, x -> x.as(1, 4));
        refused(5, "an INN as a SCHOOL", KIND, x -> x.as(2, 2));
        int[] dry = {-1, 100, MIN, MAX};
        for (int d : dry) {
            refused(6, "parch to " + d, BEYOND, x -> x.parch(0, d));
        }
        refused(11, "swap of one and the same", BEYOND, x -> x.swap(1, 1));
        onBusyCarriers();
    }

    private static void onBusyCarriers() {
        int[] bellies = {0, -1, 301, MIN, MAX};
        for (int b : bellies) {
            refused(8, "carrier " + b, BEYOND, x -> x.carrier(b));
        }
        int[] carriers = {-1, 2, 4, MIN, MAX};
        for (int c : carriers) {
            refused(9, "carrierIs " + c, BEYOND, x -> x.carrierIs(c, 0));
            refused(12, "carry by " + c, BEYOND, x -> x.carry(c, 1, 0));
            refused(23, "round of " + c, BEYOND, x -> x.round(c, 0));
            refused(25, "odds of " + c, BEYOND, x -> x.odds(c, 0));
        }
        int[] whats = {-1, 2, MIN, MAX};
        for (int w : whats) {
            refused(9, "carrierIs what " + w, BEYOND, x -> x.carrierIs(0, w));
            refused(23, "round what " + w, BEYOND, x -> x.round(0, w));
            refused(25, "odds part " + w, BEYOND, x -> x.odds(0, w));
        }
        int[] pools = {-1, 3, MIN, MAX};
        for (int p : pools) {
            refused(10, "pool " + p, BEYOND, x -> x.pool(p, 0));
            refused(12, "carry to " + p, BEYOND, x -> x.carry(0, 1, p));
            refused(12, "carry of too much to " + p, BEYOND, x -> x.carry(0, 3, p));
        }
        int[] water = {-1, 1000, MIN, MAX};
        for (int w : water) {
            refused(10, "pool to " + w, BEYOND, x -> x.pool(0, w));
        }
        int[] sets = {0, 8, 9, 128, -1, MIN, MIN + 1, MAX};
        for (int s : sets) {
            refused(12, "carry the set " + s, BEYOND, x -> x.carry(0, s, 0));
        }
        refused(12, "50 are above the BELLY of 40", STATE, x -> x.carry(0, 3, 0));
        refused(12, "50 are above WATER of 30", STATE, x -> x.carry(1, 3, 1));
        refused(12, "20 are above WATER of 0", STATE, x -> x.carry(1, 1, 2));
    }

    private static void onBusyTextsAndHours() {
        int[] lengths = {0, -1, 9, MIN, MAX};
        for (int n : lengths) {
            refused(13, "feed of " + n, BEYOND, x -> x.feed(-1L, n));
        }
        int[] uses = {-1, 2, MIN, MAX};
        for (int u : uses) {
            refused(14, "text of " + u, BEYOND, x -> x.text(u));
            refused(15, "untell of " + u, BEYOND, x -> x.untell(u));
            refused(16, "law of " + u, BEYOND, x -> x.law(u, 1, 2, 3));
        }
        int[] hours = {0, -1, 73, MIN, MAX};
        for (int n : hours) {
            refused(17, "hours " + n, BEYOND, x -> x.hours(n));
        }
        int[] loose = {0, -1, 25, 72, MIN, MAX};
        for (int n : loose) {
            refused(18, "loose " + n, BEYOND, x -> x.loose(n));
        }
        int[] beyond9999 = {10, 11, 24};
        for (int n : beyond9999) {
            refused(17, "hours " + n + " from 9990 on", STATE, x -> x.hours(n));
            refused(18, "loose " + n + " from 9990 on", STATE, x -> x.loose(n));
        }
        refused(17, "hours 72 from 9990 on", STATE, x -> x.hours(72));
        int[] hour = {-1, 10000, MIN, MAX};
        for (int v : hour) {
            refused(19, "hour " + v, BEYOND, x -> x.hour(v));
        }
    }

    private static void onBusyThoughts() {
        int[] farms = {-1, 3, MIN, MAX};
        for (int f : farms) {
            refused(21, "then of " + f, BEYOND, x -> x.then(f, 0));
            refused(28, "voice of " + f, BEYOND, x -> x.voice(f, 0, 0));
        }
        int[] ahead = {-1, 73, MIN, MAX};
        for (int n : ahead) {
            refused(21, "then " + n, BEYOND, x -> x.then(0, n));
        }
        int[] above = {-1, 100, MIN, MAX};
        for (int v : above) {
            refused(22, "first above " + v, BEYOND, x -> x.first(v, 0));
            refused(24, "fewest by " + v, BEYOND, x -> x.fewest(v, 0));
        }
        int[] whats = {-1, 2, MIN, MAX};
        for (int w : whats) {
            refused(22, "first what " + w, BEYOND, x -> x.first(0, w));
            refused(26, "whose what " + w, BEYOND, x -> x.whose(20, w));
        }
        int[] which = {-2, 7, MIN, MAX};
        for (int w : which) {
            refused(24, "fewest what " + w, BEYOND, x -> x.fewest(0, w));
        }
        refused(22, "first above 99", NONE, x -> x.first(99, 1));
        refused(26, "whose -1", BEYOND, x -> x.whose(-1, 0));
        refused(26, "whose MIN", BEYOND, x -> x.whose(MIN, 1));
        refused(26, "whose 1 of none, what 2", BEYOND, x -> x.whose(1, 2));
        refused(26, "whose 1 of none", NONE, x -> x.whose(1, 1));
        refused(26, "whose MAX of none", NONE, x -> x.whose(MAX, 1));
        int[] voices = {-1, 4, MIN, MAX};
        for (int v : voices) {
            refused(28, "voice " + v, BEYOND, x -> x.voice(0, v, 0));
            refused(28, "voice " + v + " of one that would be PARTED", BEYOND, x -> x.voice(2, v, 0));
        }
        int[] bodies = {-1, 4, 29, 30, MIN, MAX};
        for (int b : bodies) {
            refused(29, "body " + b, NONE, x -> x.body(b));
        }
        int[] errors = {0, -1, 7, MIN, MAX};
        for (int k : errors) {
            refused(40, "told " + k, BEYOND, x -> x.told(k));
        }
    }

    private static void onBusySheets() {
        int[] sheets = {-1, 4, MIN, MAX};
        for (int s : sheets) {
            refused(27, "fits " + s, BEYOND, x -> x.fits(s));
            refused(30, "sheet " + s, BEYOND, x -> x.sheet(s, 8, 1));
            refused(30, "sheet " + s + " of -1", BEYOND, x -> x.sheet(s, 8, -1));
            refused(30, "sheet " + s + " missing", BEYOND, x -> x.sheet(s, 0, 1));
            refused(31, "put " + s, BEYOND, x -> x.put(s, 0, 9));
            refused(32, "move from " + s, BEYOND, x -> x.move(s, 0, 3, 0, 0));
            refused(32, "move to " + s, BEYOND, x -> x.move(3, 0, s, 0, 0));
            refused(33, "parches " + s, BEYOND, x -> x.parches(s));
            refused(34, "judge " + s, BEYOND, x -> x.judge(s));
        }
        int[] bits = {1, 7, 9, 15, 24, 33, 64, -8, MIN, MAX};
        for (int b : bits) {
            refused(30, "bits " + b, BEYOND, x -> x.sheet(0, b, 1));
            refused(30, "bits " + b + " ahead of n below 0", BEYOND, x -> x.sheet(0, b, -1));
        }
        int[] widths = {8, 16, 32};
        for (int w : widths) {
            refused(30, w + " bits, n -1", STATE, x -> x.sheet(0, w, -1));
            refused(30, w + " bits, n MIN", STATE, x -> x.sheet(0, w, MIN));
            refused(30, w + " bits, n 25", BEYOND, x -> x.sheet(0, w, 25));
            refused(30, w + " bits, n MAX", BEYOND, x -> x.sheet(0, w, MAX));
        }
        int[] places = {-1, 3, 24, MIN, MAX};
        for (int i : places) {
            refused(31, "put at " + i, BEYOND, x -> x.put(0, i, 9));
            refused(31, "put at " + i + ", missing", NONE, x -> x.put(3, i, 9));
            refused(32, "move from " + i, BEYOND, x -> x.move(0, i, 0, 0, 1));
            refused(32, "move to " + i, BEYOND, x -> x.move(0, 0, 0, i, 1));
            refused(32, "move from " + i + ", unlike bits", KIND, x -> x.move(0, i, 1, 0, 1));
            refused(32, "move from " + i + ", missing", NONE, x -> x.move(0, i, 3, 0, 1));
        }
        refused(31, "put into a SHEET of no numbers", BEYOND, x -> x.put(2, 0, 9));
        int[] counts = {-1, 4, 24, MIN, MAX};
        for (int n : counts) {
            refused(32, "move of " + n, BEYOND, x -> x.move(0, 0, 0, 0, n));
            refused(32, "move of " + n + " from 1 on", BEYOND, x -> x.move(0, 1, 0, 0, n));
            refused(32, "move of " + n + " to 1 on", BEYOND, x -> x.move(0, 0, 0, 1, n));
        }
        refused(32, "none from behind the end", BEYOND, x -> x.move(0, 4, 0, 0, 0));
        refused(32, "none to behind the end", BEYOND, x -> x.move(0, 0, 0, 4, 0));
        refused(32, "one to a SHEET of no numbers", BEYOND, x -> x.move(1, 0, 2, 0, 1));
        refused(32, "one from a SHEET of no numbers", BEYOND, x -> x.move(2, 0, 1, 0, 1));
        refused(32, "to one missing", NONE, x -> x.move(0, 0, 3, 0, 1));
        refused(32, "both missing", NONE, x -> x.move(3, 0, 3, 0, -1));
        refused(32, "unlike bits, n below 0", KIND, x -> x.move(1, 0, 0, 0, -1));
        refused(27, "fits, missing", NONE, x -> x.fits(3));
        refused(27, "fits, not by 72", NONE, x -> x.fits(0));
        refused(33, "parches, missing", NONE, x -> x.parches(3));
        refused(34, "judge, missing", NONE, x -> x.judge(3));
    }

    private static void onFull() {
        from(RefusalsTest::full);
        refused(2, "an eighth FARM", FULL, x -> x.farm(0, 1, 0));
        refused(2, "an eighth, of no KIND", BEYOND, x -> x.farm(70, 1, 0));
        refused(2, "an eighth, without STEPS", BEYOND, x -> x.farm(0, 0, 0));
        refused(2, "an eighth, of too large a HERD", BEYOND, x -> x.farm(0, 1, 31));
        refused(8, "a fifth CARRIER", FULL, x -> x.carrier(1));
        refused(8, "a fifth, without a BELLY", BEYOND, x -> x.carrier(0));
        refused(12, "carry a set with an eighth FARM", BEYOND, x -> x.carry(0, 128, 0));
        for (int i = 1; i <= 8; i++) {
            int n = i;
            refused(13, "feed of " + n + " above 60", FULL, x -> x.feed(0x3131313131313131L, n));
        }
        refused(13, "feed of 9 above 60", BEYOND, x -> x.feed(0x31L, 9));
        refused(24, "not even by all: how many", NONE, x -> x.fewest(0, -1));
        refused(24, "not even by all: which", NONE, x -> x.fewest(0, 6));
        refused(24, "not even by all, what 7", BEYOND, x -> x.fewest(0, 7));
        refused(37, "a 25th number", FULL, x -> x.tell(0));
    }

    private static void onLate() {
        from(RefusalsTest::late);
        refused(17, "hours 1 from 9999 on", STATE, x -> x.hours(1));
        refused(17, "hours 73 from 9999 on", BEYOND, x -> x.hours(73));
        refused(17, "hours 0 from 9999 on", BEYOND, x -> x.hours(0));
        refused(18, "loose 1 from 9999 on", STATE, x -> x.loose(1));
        refused(18, "loose 25 from 9999 on", BEYOND, x -> x.loose(25));
        refused(18, "loose 0 from 9999 on", BEYOND, x -> x.loose(0));
    }

    /** THE TRACE is that of the latest voice(), so this one ERROR is left out above. */
    private static void parted() {
        ThirstPay x = busy();
        due(28, "m is k", x.voice(2, 3, 5), PARTED);
        due(40, "told", x.told(6), 1);
        due(29, "what began", x.count(6), 1);
        due(29, "what began", x.body(0), 13);
        ThirstPay y = busy();
        y.become(1, 11);
        due(28, "m is k", y.voice(1, 3, 5), PARTED);
        due(29, "what began", y.count(6), 2);
        due(29, "what began", y.body(0), 21);
        due(29, "what began", y.body(1), 13);
        due(28, "no FARM", y.voice(3, 0, 5), BEYOND);
        due(29, "stays", y.count(6), 2);
        due(28, "PARTED whatever x", y.voice(1, 3, 0), PARTED);
        due(40, "told", y.told(6), 2);
    }
}
