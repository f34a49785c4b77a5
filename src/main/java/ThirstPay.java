/** Farms that grow dry, carriers that are paid for drinking in their stead, and what may be asked of both. */
public final class ThirstPay {
    // An ERROR is LOW less one of these; told() counts by them, too.
    private static final int LOW = -1000000000;
    private static final int BEYOND = 1;
    private static final int NONE = 2;
    private static final int STATE = 3;
    private static final int FULL = 4;
    private static final int KIND = 5;
    private static final int PARTED = 6;

    private static final int FARM = 0;
    private static final int DAIRY = 1;
    private static final int SCHOOL = 2;
    private static final int INN = 3;
    private static final int BULL = 4;
    private static final int FEAST = 5;
    private static final int HERMIT = 6;
    private static final int KINDS = 7;
    private static final int[] KIND_ABOVE = {-1, FARM, FARM, FARM, DAIRY, SCHOOL, FARM};

    private static final int GROWTH = 0;
    private static final int PAY = 1;

    private static final int MOST_FARMS = 7;
    private static final int MOST_STEPS = 40;
    private static final int MOST_HERD = 30;
    private static final int MOST_DRY = 99;
    private static final int MOST_CARRIERS = 4;
    private static final int MOST_BELLY = 300;
    private static final int POOLS = 3;
    private static final int MOST_WATER = 999;
    private static final int MOST_HOUR = 9999;
    private static final int MOST_COUNTED = 99999;
    private static final int MOST_TAPE = 60;
    private static final int MOST_WAITING = 24;
    private static final int MOST_AHEAD = 72;
    private static final int MOST_LOOSE = 24;
    private static final int SHEETS = 4;
    private static final int MOST_NUMBERS = 24;

    private final World now = new World();
    private final World kept = new World();
    private final Thought thought = new Thought(now);
    private final Reader reader = new Reader();
    private final Voices voices = new Voices();
    private final Sheet[] sheets = new Sheet[SHEETS];
    private final int[] refusals = new int[PARTED + 1];
    private int images;

    public ThirstPay() {
        for (int i = 0; i < sheets.length; i++) {
            sheets[i] = new Sheet();
        }
    }

    // ---- farms, carriers, pools

    public int farm(int km, int steps, int herd) {
        if (!isKindAndM(km) || !within(steps, 1, MOST_STEPS) || !within(herd, 0, MOST_HERD)) {
            return refuse(BEYOND);
        }
        if (now.farmCount >= MOST_FARMS) {
            return refuse(FULL);
        }
        now.farms[now.farmCount].begin(km, steps, herd);
        now.farmCount++;
        return now.farmCount - 1;
    }

    public int farmIs(int farm, int what) {
        if (!isFarm(farm)) {
            return refuse(BEYOND);
        }
        Farm asked = now.farms[farm];
        switch (what) {
            case 0: return asked.kind;
            case 1: return asked.m;
            case 2: return asked.steps;
            case 3: return asked.herd;
            case 4: return asked.dry;
            case 5: return asked.eased;
            case 6: return now.growthOf(asked, asked.dry, now.hour);
            case 7: return now.payOf(asked);
            default: return refuse(BEYOND);
        }
    }

    public int become(int farm, int km) {
        if (!isFarm(farm) || !isKindAndM(km)) {
            return refuse(BEYOND);
        }
        int was = now.farms[farm].kind;
        now.farms[farm].beOfKind(km);
        return was;
    }

    public int as(int farm, int kind) {
        if (!isFarm(farm) || !within(kind, 0, KINDS - 1)) {
            return refuse(BEYOND);
        }
        if (!isOrUnder(now.farms[farm].kind, kind)) {
            return refuse(KIND);
        }
        return now.farms[farm].m;
    }

    public int parch(int farm, int v) {
        if (!isFarm(farm) || !within(v, 0, MOST_DRY)) {
            return refuse(BEYOND);
        }
        int was = now.farms[farm].dry;
        now.farms[farm].dry = v;
        return was;
    }

    public int graze(int farm, int herd) {
        if (!isFarm(farm) || !within(herd, 0, MOST_HERD)) {
            return refuse(BEYOND);
        }
        int was = now.farms[farm].herd;
        now.farms[farm].herd = herd;
        return was;
    }

    public int carrier(int belly) {
        if (!within(belly, 1, MOST_BELLY)) {
            return refuse(BEYOND);
        }
        if (now.carrierCount >= MOST_CARRIERS) {
            return refuse(FULL);
        }
        now.belly[now.carrierCount] = belly;
        now.earned[now.carrierCount] = 0;
        now.carrierCount++;
        return now.carrierCount - 1;
    }

    public int carrierIs(int carrier, int what) {
        if (!isCarrier(carrier) || !within(what, 0, 1)) {
            return refuse(BEYOND);
        }
        return what == 0 ? now.belly[carrier] : now.earned[carrier];
    }

    public int pool(int pool, int v) {
        if (!isPool(pool) || !within(v, 0, MOST_WATER)) {
            return refuse(BEYOND);
        }
        int was = now.water[pool];
        now.water[pool] = v;
        return was;
    }

    public int swap(int one, int other) {
        if (!isFarm(one) || !isFarm(other) || one == other) {
            return refuse(BEYOND);
        }
        int was = now.farms[one].dry;
        now.farms[one].dry = now.farms[other].dry;
        now.farms[other].dry = was;
        return now.farms[one].dry;
    }

    public int carry(int carrier, int set, int pool) {
        if (!isCarrier(carrier) || !within(set, 1, now.allFarms()) || !isPool(pool)) {
            return refuse(BEYOND);
        }
        if (!now.mayBeCarried(carrier, set, pool)) {
            return refuse(STATE);
        }
        return now.beCarried(carrier, set, pool);
    }

    // ---- texts

    public int feed(long word, int n) {
        if (!within(n, 1, 8)) {
            return refuse(BEYOND);
        }
        if (now.taped + n > MOST_TAPE) {
            return refuse(FULL);
        }
        for (int i = 0; i < n; i++) {
            now.tape[now.taped + i] = (byte) (word >>> (8 * i));
        }
        now.taped += n;
        return now.taped;
    }

    public int text(int use) {
        if (!isUse(use)) {
            return refuse(BEYOND);
        }
        int fault = reader.faultOf(now.tape, now.taped, namesOf(use));
        now.taped = 0;
        if (fault >= 0) {
            return -10 - fault;
        }
        now.texts[use].copyFrom(reader.written);
        return 1;
    }

    public int untell(int use) {
        if (!isUse(use)) {
            return refuse(BEYOND);
        }
        int was = now.texts[use].isThere() ? 1 : 0;
        now.texts[use].clear();
        return was;
    }

    public int law(int use, int a, int b, int c) {
        return isUse(use) ? now.given(use, a, b, c) : refuse(BEYOND);
    }

    // ---- hours

    public int hours(int n) {
        if (!within(n, 1, MOST_AHEAD)) {
            return refuse(BEYOND);
        }
        if (now.hour + n > MOST_HOUR) {
            return refuse(STATE);
        }
        for (int i = 0; i < n; i++) {
            now.goOnAnHour();
        }
        return now.parched;
    }

    public int loose(int n) {
        if (!within(n, 1, MOST_LOOSE)) {
            return refuse(BEYOND);
        }
        if (now.hour + n > MOST_HOUR) {
            return refuse(STATE);
        }
        int pay = 0;
        for (int i = 0; i < n; i++) {
            pay += now.carryByDraws();
            now.goOnAnHour();
        }
        return pay;
    }

    public int hour(int v) {
        if (!within(v, 0, MOST_HOUR)) {
            return refuse(BEYOND);
        }
        int was = now.hour;
        now.hour = v;
        return was;
    }

    public int seed(int v) {
        int was = now.z;
        now.z = v;
        return was;
    }

    // ---- what would be

    public int then(int farm, int n) {
        if (!isFarm(farm) || !within(n, 0, MOST_AHEAD)) {
            return refuse(BEYOND);
        }
        return thought.dryThen(farm, n);
    }

    public int first(int x, int what) {
        if (!within(x, 0, MOST_DRY) || !within(what, 0, 1)) {
            return refuse(BEYOND);
        }
        int ahead = thought.hoursUntilAbove(x);
        if (ahead < 0) {
            return refuse(NONE);
        }
        return what == 0 ? thought.firstAbove(x) : ahead;
    }

    public int round(int carrier, int what) {
        if (!isCarrier(carrier) || !within(what, 0, 1)) {
            return refuse(BEYOND);
        }
        int set = thought.bestSet(now.belly[carrier]);
        return what == 0 ? set : now.payOfSet(set);
    }

    public int fewest(int x, int what) {
        if (!within(x, 0, MOST_DRY) || !within(what, -1, MOST_FARMS - 1)) {
            return refuse(BEYOND);
        }
        int carriers = thought.fewestCarriers(x);
        if (carriers < 0) {
            return refuse(NONE);
        }
        return what < 0 ? carriers : thought.carrierOf(what);
    }

    public int odds(int carrier, int part) {
        if (!isCarrier(carrier) || !within(part, 0, 1)) {
            return refuse(BEYOND);
        }
        if (now.farmCount == 0) {
            return refuse(STATE);
        }
        int above = thought.setsWithin(now.belly[carrier]);
        int below = now.allFarms();
        int shared = commonDivisor(above, below);
        return (part == 0 ? above : below) / Math.max(1, shared);
    }

    public int whose(int v, int what) {
        if (v < 0 || !within(what, 0, 1)) {
            return refuse(BEYOND);
        }
        if (what == 0) {
            return thought.setsOf(v);
        }
        int least = thought.leastSetOf(v);
        return least == 0 ? refuse(NONE) : least;
    }

    public int fits(int sheet) {
        if (!isSheet(sheet)) {
            return refuse(BEYOND);
        }
        if (sheets[sheet].isMissing()) {
            return refuse(NONE);
        }
        int ahead = thought.hoursUntilAsTold(sheets[sheet]);
        return ahead < 0 ? refuse(NONE) : ahead;
    }

    // ---- voices, sheets, images, what is told

    public int voice(int farm, int voice, int x) {
        if (!isFarm(farm) || !within(voice, 0, Voices.VOICES - 1)) {
            return refuse(BEYOND);
        }
        int answer = voices.answerOf(farm, now.farms[farm], voice, x);
        return voices.parted ? refuse(PARTED) : answer;
    }

    public int body(int i) {
        return within(i, 0, voices.begun - 1) ? voices.trace[i] : refuse(NONE);
    }

    public int sheet(int sheet, int bits, int n) {
        if (!isSheet(sheet) || !(bits == 0 || bits == 8 || bits == 16 || bits == 32)) {
            return refuse(BEYOND);
        }
        if (bits == 0) {
            sheets[sheet].begin(0, 0);
            return 1;
        }
        if (n < 0) {
            return refuse(STATE);
        }
        if (n > MOST_NUMBERS) {
            return refuse(BEYOND);
        }
        sheets[sheet].begin(bits, n);
        return 1;
    }

    public int put(int sheet, int i, int v) {
        if (!isSheet(sheet)) {
            return refuse(BEYOND);
        }
        if (sheets[sheet].isMissing()) {
            return refuse(NONE);
        }
        if (!within(i, 0, sheets[sheet].size - 1)) {
            return refuse(BEYOND);
        }
        sheets[sheet].write(i, v);
        return 1;
    }

    public int move(int sheet, int i, int other, int j, int n) {
        if (!isSheet(sheet) || !isSheet(other)) {
            return refuse(BEYOND);
        }
        Sheet from = sheets[sheet];
        Sheet to = sheets[other];
        if (from.isMissing() || to.isMissing()) {
            return refuse(NONE);
        }
        if (from.bits != to.bits) {
            return refuse(KIND);
        }
        if (!from.hasRow(i, n) || !to.hasRow(j, n)) {
            return refuse(BEYOND);
        }
        System.arraycopy(from.numbers, i, to.numbers, j, n);
        return n;
    }

    public int parches(int sheet) {
        if (!isSheet(sheet)) {
            return refuse(BEYOND);
        }
        Sheet told = sheets[sheet];
        if (told.isMissing()) {
            return refuse(NONE);
        }
        int most = Math.min(told.size, now.farmCount);
        int i = 0;
        while (i < most && within(told.numbers[i], 0, MOST_DRY)) {
            now.farms[i].dry = told.numbers[i];
            i++;
        }
        return i;
    }

    public int judge(int sheet) {
        if (!isSheet(sheet)) {
            return refuse(BEYOND);
        }
        Sheet told = sheets[sheet];
        if (told.isMissing()) {
            return refuse(NONE);
        }
        int most = Math.min(told.size, now.farmCount);
        int i = 0;
        while (i < most && told.numbers[i] == now.payOf(now.farms[i])) {
            i++;
        }
        return i;
    }

    public int image() {
        kept.copyFrom(now);
        images++;
        return images;
    }

    public int restore() {
        if (images == 0) {
            return refuse(NONE);
        }
        now.copyFrom(kept);
        return now.hour;
    }

    public int tell(int v) {
        if (now.waits >= MOST_WAITING) {
            return refuse(FULL);
        }
        now.waiting[now.waits] = v;
        now.waits++;
        return now.waits;
    }

    public int check() {
        int waited = now.waits;
        now.waits = 0;
        for (int i = 0; i < waited; i++) {
            if (i >= now.carrierCount || now.waiting[i] != now.earned[i]) {
                return 1 + i;
            }
        }
        return 0;
    }

    public int count(int what) {
        switch (what) {
            case 0: return now.farmCount;
            case 1: return now.carrierCount;
            case 2: return now.hour;
            case 3: return now.parched;
            case 4: return now.taped;
            case 5: return now.waits;
            case 6: return voices.begun;
            case 7: return now.z;
            default: return refuse(BEYOND);
        }
    }

    public int told(int k) {
        return within(k, BEYOND, PARTED) ? refusals[k] : refuse(BEYOND);
    }

    private int refuse(int error) {
        if (within(error, BEYOND, PARTED)) {
            refusals[error]++;
        }
        return LOW - error;
    }

    private boolean isFarm(int farm) {
        return within(farm, 0, now.farmCount - 1);
    }

    private boolean isCarrier(int carrier) {
        return within(carrier, 0, now.carrierCount - 1);
    }

    private static boolean isPool(int pool) {
        return within(pool, 0, POOLS - 1);
    }

    private static boolean isSheet(int sheet) {
        return within(sheet, 0, SHEETS - 1);
    }

    private static boolean isUse(int use) {
        return use == GROWTH || use == PAY;
    }

    private static boolean isKindAndM(int km) {
        return within(km, 0, 10 * KINDS - 1);
    }

    private static boolean within(int v, int least, int most) {
        return v >= least && v <= most;
    }

    private static int kindAbove(int kind) {
        return within(kind, 0, KINDS - 1) ? KIND_ABOVE[kind] : -1;
    }

    private static boolean isOrUnder(int kind, int wanted) {
        int at = kind;
        for (int i = 0; i < KINDS && at >= 0; i++) {
            if (at == wanted) {
                return true;
            }
            at = kindAbove(at);
        }
        return false;
    }

    private static String namesOf(int use) {
        return use == GROWTH ? "gdh" : "pds";
    }

    private static int commonDivisor(int one, int other) {
        int a = one;
        int b = other;
        // Both are at most 127, so far fewer steps than this are needed.
        for (int i = 0; i < 100 && b > 0; i++) {
            int rest = a % b;
            a = b;
            b = rest;
        }
        return a;
    }

    /** A FARM: what is told of it, and how dry it is. */
    private static final class Farm {
        private int kind;
        private int m;
        private int steps;
        private int herd;
        private int dry;
        private int eased;

        void begin(int km, int steps, int herd) {
            beOfKind(km);
            this.steps = steps;
            this.herd = herd;
            dry = 0;
            eased = 0;
        }

        void beOfKind(int km) {
            kind = km / 10;
            m = km % 10;
        }

        void copyFrom(Farm other) {
            kind = other.kind;
            m = other.m;
            steps = other.steps;
            herd = other.herd;
            dry = other.dry;
            eased = other.eased;
        }

        int grows(int hour) {
            int plain = 1 + m / 3;
            switch (kind) {
                case DAIRY: return plain + herd / 4;
                case SCHOOL: return byDay(plain, hour);
                case BULL: return plain + herd / 4 + m;
                case FEAST: return byDay(plain, hour) + (hour % 7 == 0 ? 3 : 0);
                case HERMIT: return plain - 1;
                default: return plain;
            }
        }

        private static int byDay(int plain, int hour) {
            return within(hour % 24, 8, 14) ? 2 * plain : plain;
        }

        int pays() {
            int plain = dry + steps;
            switch (kind) {
                case SCHOOL: return plain / 2;
                case INN: return 2 * plain;
                case BULL: return plain + 5;
                case FEAST: return plain / 2 + herd;
                case HERMIT: return 0;
                default: return plain;
            }
        }
    }

    /** All that an IMAGE keeps, and the ways in which it goes on. */
    private static final class World {
        private final Farm[] farms = new Farm[MOST_FARMS];
        private int farmCount;
        private final int[] belly = new int[MOST_CARRIERS];
        private final int[] earned = new int[MOST_CARRIERS];
        private int carrierCount;
        private final int[] water = new int[POOLS];
        private int hour;
        private int parched;
        private int z = 1;
        private final byte[] tape = new byte[MOST_TAPE];
        private int taped;
        private final Text[] texts = new Text[PAY + 1];
        private final int[] waiting = new int[MOST_WAITING];
        private int waits;

        World() {
            for (int i = 0; i < farms.length; i++) {
                farms[i] = new Farm();
            }
            for (int i = 0; i < texts.length; i++) {
                texts[i] = new Text();
            }
        }

        void copyFrom(World other) {
            for (int i = 0; i < farms.length; i++) {
                farms[i].copyFrom(other.farms[i]);
            }
            for (int i = 0; i < texts.length; i++) {
                texts[i].copyFrom(other.texts[i]);
            }
            System.arraycopy(other.belly, 0, belly, 0, belly.length);
            System.arraycopy(other.earned, 0, earned, 0, earned.length);
            System.arraycopy(other.water, 0, water, 0, water.length);
            System.arraycopy(other.tape, 0, tape, 0, tape.length);
            System.arraycopy(other.waiting, 0, waiting, 0, waiting.length);
            farmCount = other.farmCount;
            carrierCount = other.carrierCount;
            hour = other.hour;
            parched = other.parched;
            z = other.z;
            taped = other.taped;
            waits = other.waits;
        }

        int allFarms() {
            return (1 << farmCount) - 1;
        }

        int given(int use, int a, int b, int c) {
            int most = use == GROWTH ? 9 : 999;
            int v = texts[use].isThere() ? texts[use].workedOut(a, b, c) : a;
            return Math.max(0, Math.min(most, v));
        }

        int growthOf(Farm farm, int dry, int atHour) {
            return given(GROWTH, farm.grows(atHour), dry, atHour % 24);
        }

        int payOf(Farm farm) {
            return given(PAY, farm.pays(), farm.dry, farm.steps);
        }

        int payOfSet(int set) {
            int sum = 0;
            for (int i = 0; i < farmCount; i++) {
                if ((set >> i & 1) != 0) {
                    sum += payOf(farms[i]);
                }
            }
            return sum;
        }

        int dryOfSet(int set) {
            int sum = 0;
            for (int i = 0; i < farmCount; i++) {
                if ((set >> i & 1) != 0) {
                    sum += farms[i].dry;
                }
            }
            return sum;
        }

        boolean mayBeCarried(int carrier, int set, int pool) {
            int sum = dryOfSet(set);
            return sum <= belly[carrier] && sum <= water[pool];
        }

        int beCarried(int carrier, int set, int pool) {
            int pay = payOfSet(set);
            water[pool] -= dryOfSet(set);
            earned[carrier] = Math.min(MOST_COUNTED, earned[carrier] + pay);
            for (int i = 0; i < farmCount; i++) {
                if ((set >> i & 1) != 0) {
                    farms[i].eased = Math.min(MOST_COUNTED, farms[i].eased + farms[i].dry);
                    farms[i].dry = 0;
                }
            }
            return pay;
        }

        int carryByDraws() {
            if (carrierCount == 0 || farmCount == 0) {
                return 0;
            }
            int carrier = drawn() % carrierCount;
            int set = drawn() % (1 << farmCount);
            int pool = drawn() % POOLS;
            return set != 0 && mayBeCarried(carrier, set, pool) ? beCarried(carrier, set, pool) : 0;
        }

        private int drawn() {
            z = z * 1103515245 + 12345;
            return z >>> 8;
        }

        void goOnAnHour() {
            for (int i = 0; i < farmCount; i++) {
                Farm farm = farms[i];
                farm.dry += growthOf(farm, farm.dry, hour);
                if (farm.dry > MOST_DRY) {
                    farm.dry = MOST_DRY;
                    parched = Math.min(MOST_COUNTED, parched + 1);
                }
            }
            for (int i = 0; i < POOLS; i++) {
                water[i] = Math.min(MOST_WATER, water[i] + i + 1);
            }
            hour++;
        }
    }

    /** What would be: nothing here changes the World that it is about. */
    private static final class Thought {
        private final World world;
        private final int[] dry = new int[MOST_FARMS];
        private final int[] room = new int[MOST_CARRIERS];
        private final int[] way = new int[MOST_FARMS];
        private final int[] bestWay = new int[MOST_FARMS];
        private int bestCarriers;

        Thought(World world) {
            this.world = world;
        }

        int dryThen(int farm, int n) {
            startAhead();
            for (int ahead = 0; ahead < n; ahead++) {
                goAhead(world.hour + ahead);
            }
            return within(farm, 0, MOST_FARMS - 1) ? dry[farm] : 0;
        }

        private void startAhead() {
            for (int i = 0; i < world.farmCount; i++) {
                dry[i] = world.farms[i].dry;
            }
        }

        private void goAhead(int hour) {
            for (int i = 0; i < world.farmCount; i++) {
                dry[i] = Math.min(MOST_DRY, dry[i] + world.growthOf(world.farms[i], dry[i], hour));
            }
        }

        /** Behind how many HOURS any FARM is more DRY than x, or -1; firstAbove(x) is which, then. */
        int hoursUntilAbove(int x) {
            startAhead();
            for (int ahead = 0; ahead <= MOST_AHEAD; ahead++) {
                if (firstAbove(x) >= 0) {
                    return ahead;
                }
                goAhead(world.hour + ahead);
            }
            return -1;
        }

        int firstAbove(int x) {
            for (int i = 0; i < world.farmCount; i++) {
                if (dry[i] > x) {
                    return i;
                }
            }
            return -1;
        }

        int hoursUntilAsTold(Sheet told) {
            startAhead();
            for (int ahead = 0; ahead <= MOST_AHEAD; ahead++) {
                if (isAsTold(told)) {
                    return ahead;
                }
                goAhead(world.hour + ahead);
            }
            return -1;
        }

        private boolean isAsTold(Sheet told) {
            if (told.size > world.farmCount) {
                return false;
            }
            for (int i = 0; i < told.size; i++) {
                if (told.numbers[i] != dry[i]) {
                    return false;
                }
            }
            return true;
        }

        int bestSet(int belly) {
            int best = 0;
            int bestPay = 0;
            for (int set = 1; set <= world.allFarms(); set++) {
                if (world.dryOfSet(set) <= belly) {
                    int pay = world.payOfSet(set);
                    if (pay > bestPay) {
                        best = set;
                        bestPay = pay;
                    }
                }
            }
            return best;
        }

        int setsWithin(int belly) {
            int sets = 0;
            for (int set = 1; set <= world.allFarms(); set++) {
                if (world.dryOfSet(set) <= belly) {
                    sets++;
                }
            }
            return sets;
        }

        int setsOf(int v) {
            int sets = 0;
            for (int set = 1; set <= world.allFarms(); set++) {
                if (world.dryOfSet(set) == v) {
                    sets++;
                }
            }
            return sets;
        }

        int leastSetOf(int v) {
            for (int set = 1; set <= world.allFarms(); set++) {
                if (world.dryOfSet(set) == v) {
                    return set;
                }
            }
            return 0;
        }

        /** The fewest CARRIERS, or -1; carrierOf(..) tells the way, then. */
        int fewestCarriers(int x) {
            System.arraycopy(world.belly, 0, room, 0, room.length);
            for (int i = 0; i < MOST_FARMS; i++) {
                bestWay[i] = -1;
            }
            bestCarriers = MOST_CARRIERS + 1;
            placeFrom(0, 0, x);
            return bestCarriers > MOST_CARRIERS ? -1 : bestCarriers;
        }

        int carrierOf(int farm) {
            return within(farm, 0, MOST_FARMS - 1) ? bestWay[farm] : -1;
        }

        // Ways come in the order of FARMS, so the first of as many CARRIERS stays.
        private void placeFrom(int farm, int used, int x) {
            int carriers = Integer.bitCount(used);
            if (carriers >= bestCarriers) {
                return;
            }
            if (farm >= world.farmCount || farm >= MOST_FARMS) {
                bestCarriers = carriers;
                System.arraycopy(way, 0, bestWay, 0, world.farmCount);
                return;
            }
            int load = world.farms[farm].dry;
            if (load <= x) {
                way[farm] = -1;
                placeFrom(farm + 1, used, x);
                return;
            }
            for (int i = 0; i < world.carrierCount; i++) {
                if (load <= room[i]) {
                    room[i] -= load;
                    way[farm] = i;
                    placeFrom(farm + 1, used | 1 << i, x);
                    room[i] += load;
                }
            }
        }
    }

    /** A TEXT, in the order in which it is worked out: a sign stands behind what it joins. */
    private static final class Text {
        private static final int NUMBER = 1;
        private static final int NAME = 2;

        private final int[] signs = new int[MOST_TAPE];
        private final int[] values = new int[MOST_TAPE];
        private final int[] open = new int[MOST_TAPE];
        private int length;

        void clear() {
            length = 0;
        }

        boolean isThere() {
            return length > 0;
        }

        void copyFrom(Text other) {
            System.arraycopy(other.signs, 0, signs, 0, signs.length);
            System.arraycopy(other.values, 0, values, 0, values.length);
            length = other.length;
        }

        void add(int sign, int value) {
            if (length < MOST_TAPE) {
                signs[length] = sign;
                values[length] = value;
                length++;
            }
        }

        int workedOut(int a, int b, int c) {
            int top = 0;
            for (int i = 0; i < length; i++) {
                int sign = signs[i];
                if (sign == NUMBER || sign == NAME) {
                    if (top < MOST_TAPE) {
                        open[top] = sign == NUMBER ? values[i] : named(values[i], a, b, c);
                        top++;
                    }
                } else if (sign == '!') {
                    if (top >= 1) {
                        open[top - 1] = open[top - 1] == 0 ? 1 : 0;
                    }
                } else if (top >= 2) {
                    top--;
                    open[top - 1] = joined(sign, open[top - 1], open[top]);
                }
            }
            return top > 0 ? open[0] : 0;
        }

        private static int named(int name, int a, int b, int c) {
            return name == 0 ? a : name == 1 ? b : c;
        }

        private static int joined(int sign, int left, int right) {
            switch (sign) {
                case '|': return left != 0 || right != 0 ? 1 : 0;
                case '&': return left != 0 && right != 0 ? 1 : 0;
                case '<': return left < right ? 1 : 0;
                case '=': return left == right ? 1 : 0;
                case '>': return left > right ? 1 : 0;
                case '+': return left + right;
                case '-': return left - right;
                case '*': return left * right;
                case '/': return right == 0 ? 0 : left / right;
                case '%': return right == 0 ? 0 : left % right;
                default: return 0;
            }
        }
    }

    /** Reads THE TAPE as a TEXT. */
    private static final class Reader {
        private static final int RANK_COMPARED = 2;
        private static final int RANK_OPERAND = 5;
        private static final int MOST_OPEN = 5;
        private static final int MOST_DIGITS = 4;

        private final Text written = new Text();
        private final int[] bytes = new int[MOST_TAPE];
        private int length;
        private int at;
        private String names = "";

        /** The FAULT, or -1 if it is a TEXT; written is that TEXT, then. */
        int faultOf(byte[] tape, int taped, String namesThere) {
            length = Math.max(0, Math.min(taped, Math.min(tape.length, MOST_TAPE)));
            for (int i = 0; i < length; i++) {
                bytes[i] = tape[i] & 255;
            }
            at = 0;
            names = namesThere;
            written.clear();
            return readRank(0, 0) && at == length ? -1 : at;
        }

        // T, A, B, S and P are one rule, each with signs of its own: ranks 0 to 4; Q is the rank behind them.
        private boolean readRank(int rank, int open) {
            if (rank >= RANK_OPERAND) {
                return readOperand(open);
            }
            if (!readRank(rank + 1, open)) {
                return false;
            }
            while (at < length && rankOf(bytes[at]) == rank) {
                int sign = bytes[at];
                at++;
                if (!readRank(rank + 1, open)) {
                    return false;
                }
                written.add(sign, 0);
                if (rank == RANK_COMPARED) {
                    break;
                }
            }
            return true;
        }

        private static int rankOf(int sign) {
            switch (sign) {
                case '|': return 0;
                case '&': return 1;
                case '<': case '=': case '>': return RANK_COMPARED;
                case '+': case '-': return 3;
                case '*': case '/': case '%': return 4;
                default: return -1;
            }
        }

        private boolean readOperand(int open) {
            if (at >= length) {
                return false;
            }
            int sign = bytes[at];
            if (isDigit(sign)) {
                readNumber();
                return true;
            }
            int name = names.indexOf((char) sign);
            if (name >= 0) {
                at++;
                written.add(Text.NAME, name);
                return true;
            }
            if (open >= MOST_OPEN) {
                return false;
            }
            return sign == '!' ? readNot(open + 1) : sign == '(' && readBracket(open + 1);
        }

        private void readNumber() {
            int value = 0;
            for (int i = 0; i < MOST_DIGITS && at < length && isDigit(bytes[at]); i++) {
                value = 10 * value + bytes[at] - '0';
                at++;
            }
            written.add(Text.NUMBER, value);
        }

        private boolean readNot(int open) {
            at++;
            if (!readOperand(open)) {
                return false;
            }
            written.add('!', 0);
            return true;
        }

        private boolean readBracket(int open) {
            at++;
            if (!readRank(0, open) || at >= length || bytes[at] != ')') {
                return false;
            }
            at++;
            return true;
        }

        private static boolean isDigit(int sign) {
            return sign >= '0' && sign <= '9';
        }
    }

    /** VOICES: each is answered by the BODY of a KIND, or of the next KIND above that has one. */
    private static final class Voices {
        private static final int GULPS = 0;
        private static final int SIPS = 1;
        private static final int SIGHS = 2;
        private static final int PARTS = 3;
        private static final int VOICES = 4;
        private static final int MOST_TRACED = 30;
        private static final int DEEPEST = 20;
        // A row for each KIND, a column for each voice; 0 where a KIND has no BODY of its own.
        private static final int[] BODIES = {
            10, 11, 12, 13,
            20, 0, 0, 21,
            0, 30, 0, 0,
            0, 0, 40, 0,
            50, 0, 51, 0,
            0, 60, 0, 0,
            70, 71, 0, 0,
        };

        private final int[] trace = new int[MOST_TRACED];
        private int begun;
        private boolean parted;
        private int k;
        private int m;
        private int kind;

        int answerOf(int number, Farm farm, int asked, int x) {
            k = number;
            m = farm.m;
            kind = farm.kind;
            begun = 0;
            parted = false;
            return spoken(kind, asked, x, 0);
        }

        private int spoken(int fromKind, int asked, int x, int depth) {
            int owner = ownerOf(fromKind, asked);
            if (owner < 0 || depth > DEEPEST) {
                return 0;
            }
            int body = bodyOf(owner, asked);
            if (begun < MOST_TRACED) {
                trace[begun] = body;
                begun++;
            }
            return workedOut(body, kindAbove(owner), x, depth + 1);
        }

        private static int ownerOf(int fromKind, int asked) {
            int at = fromKind;
            for (int i = 0; i < KINDS && at >= 0 && bodyOf(at, asked) == 0; i++) {
                at = kindAbove(at);
            }
            return at;
        }

        private static int bodyOf(int ofKind, int asked) {
            int i = VOICES * ofKind + asked;
            return within(i, 0, BODIES.length - 1) ? BODIES[i] : 0;
        }

        private int workedOut(int body, int above, int x, int depth) {
            switch (body) {
                case 10: return x + k;
                case 11: return spoken(kind, GULPS, x, depth) * 2;
                case 12: return spoken(kind, SIPS, x, depth) - m;
                case 13: return partOf(x);
                case 20: return spoken(above, GULPS, x, depth) - 4;
                case 21: return partAndSips(above, x, depth);
                case 30: return 0 - spoken(above, SIPS, x, depth);
                case 40: return spoken(above, SIGHS, x / 2, depth);
                case 50: return spoken(above, GULPS, x, depth) * 3;
                case 51: return spoken(above, SIGHS, x, depth) ^ k;
                case 60: return spoken(above, SIPS, x + 1, depth);
                case 70: return 9;
                case 71: return spoken(above, SIPS, x, depth) + m;
                default: return 0;
            }
        }

        private int partOf(int x) {
            int divisor = m - k;
            if (divisor == 0) {
                parted = true;
                return 0;
            }
            return x / divisor;
        }

        private int partAndSips(int above, int x, int depth) {
            int part = spoken(above, PARTS, x, depth);
            // Nothing is worked out behind a PARTED, so no BODY begins there.
            return parted ? 0 : part + spoken(kind, SIPS, 1, depth);
        }
    }

    /** A SHEET; without bits it is missing. */
    private static final class Sheet {
        private final int[] numbers = new int[MOST_NUMBERS];
        private int bits;
        private int size;

        void begin(int bits, int size) {
            this.bits = bits;
            this.size = size;
            for (int i = 0; i < MOST_NUMBERS; i++) {
                numbers[i] = 0;
            }
        }

        boolean isMissing() {
            return bits == 0;
        }

        // A number of 8 or 16 bits has a sign, as one of 32 bits has.
        void write(int i, int v) {
            if (within(i, 0, MOST_NUMBERS - 1)) {
                numbers[i] = bits == 8 ? (byte) v : bits == 16 ? (short) v : v;
            }
        }

        boolean hasRow(int from, int n) {
            return from >= 0 && n >= 0 && n <= size && from <= size - n;
        }
    }
}
