/** Each promise of the document by itself: ordinary inputs, the edges that it names, wrong inputs. */
public final class PromisesTest extends Checks {
    public static void main(String[] args) {
        newObject();
        farm();
        farmIsGrowth();
        farmIsPay();
        become();
        as();
        parch();
        graze();
        carrier();
        pool();
        swap();
        carry();
        carryHolds();
        feed();
        textFaults();
        textDepth();
        textValues();
        textReplaces();
        untell();
        law();
        hours();
        hoursWithTexts();
        loose();
        hourAndSeed();
        then();
        first();
        round();
        fewest();
        odds();
        whose();
        fits();
        voicesByKind();
        voiceParted();
        sheetAndPut();
        move();
        parches();
        judge();
        imageAndRestore();
        tellAndCheck();
        count();
        told();
        refusalsChangeNothing();
        end("PromisesTest");
    }

    private static void newObject() {
        ThirstPay x = new ThirstPay();
        int[] counts = {0, 0, 0, 0, 0, 0, 0, 1};
        for (int i = 0; i < counts.length; i++) {
            due(1, "count " + i, x.count(i), counts[i]);
        }
        for (int k = 1; k <= 6; k++) {
            due(1, "told " + k, x.told(k), 0);
        }
        due(1, "no FARM", x.farmIs(0, 0), BEYOND);
        due(1, "no CARRIER", x.carrierIs(0, 0), BEYOND);
        due(1, "no TEXT 0", x.untell(0), 0);
        due(1, "no TEXT 1", x.untell(1), 0);
        due(1, "no IMAGE", x.restore(), NONE);
        for (int i = 0; i < 4; i++) {
            due(1, "SHEET missing", x.put(i, 0, 0), NONE);
        }
        for (int i = 0; i < 3; i++) {
            due(1, "no WATER", x.pool(i, 0), 0);
        }
    }

    private static void farm() {
        ThirstPay x = new ThirstPay();
        int[][] beyond = {{-1, 1, 0}, {70, 1, 0}, {0, 0, 0}, {0, 41, 0}, {0, 1, -1}, {0, 1, 31},
            {Integer.MIN_VALUE, 1, 0}, {Integer.MAX_VALUE, 1, 0}};
        for (int[] b : beyond) {
            due(2, "farm beyond", x.farm(b[0], b[1], b[2]), BEYOND);
        }
        due(2, "farm", x.farm(69, 40, 30), 0);
        due(2, "farm", x.farm(0, 1, 0), 1);
        int[] first = {6, 9, 40, 30, 0, 0};
        int[] second = {0, 0, 1, 0, 0, 0};
        for (int i = 0; i < 6; i++) {
            due(3, "farmIs 0 " + i, x.farmIs(0, i), first[i]);
            due(3, "farmIs 1 " + i, x.farmIs(1, i), second[i]);
        }
        for (int i = 2; i < 7; i++) {
            due(2, "farm", x.farm(11, 2, 3), i);
        }
        due(2, "an eighth", x.farm(0, 1, 0), FULL);
        due(2, "BEYOND is asked first", x.farm(0, 0, 0), BEYOND);
        due(2, "still seven", x.count(0), 7);
        due(3, "farmIs", x.farmIs(-1, 0), BEYOND);
        due(3, "farmIs", x.farmIs(7, 0), BEYOND);
        due(3, "farmIs", x.farmIs(0, -1), BEYOND);
        due(3, "farmIs", x.farmIs(0, 8), BEYOND);
    }

    private static void farmIsGrowth() {
        // m 5, HERD 9: by KIND, at HOURS that are neither by day nor by seven, by day, by seven, both.
        int[][] grown = {
            {2, 2, 2, 2},
            {4, 4, 4, 4},
            {2, 4, 2, 4},
            {2, 2, 2, 2},
            {9, 9, 9, 9},
            {2, 4, 5, 7},
            {1, 1, 1, 1},
        };
        int[] hours = {1, 8, 7, 14};
        for (int kind = 0; kind < 7; kind++) {
            ThirstPay x = new ThirstPay();
            x.farm(10 * kind + 5, 3, 9);
            for (int i = 0; i < hours.length; i++) {
                x.hour(hours[i]);
                due(3, "GROWTH of " + kind + " at " + hours[i], x.farmIs(0, 6), grown[kind][i]);
            }
            x.hour(24 * 7 + 7);
            due(3, "GROWTH at 7 of a day", x.farmIs(0, 6), grown[kind][2]);
            x.hour(24 + 15);
            due(3, "GROWTH at 15 of a day", x.farmIs(0, 6), grown[kind][0]);
            x.hour(0);
            due(3, "7 divides 0", x.farmIs(0, 6), grown[kind][2]);
        }
        ThirstPay x = new ThirstPay();
        x.farm(49, 1, 30);
        due(3, "GROWTH is held at 9", x.farmIs(0, 6), 9);
        x.become(0, 41);
        x.graze(0, 11);
        due(3, "GROWTH of a BULL", x.farmIs(0, 6), 1 + 2 + 1);
    }

    private static void farmIsPay() {
        // DRY 10, STEPS 7, HERD 4.
        int[] pays = {17, 17, 8, 34, 22, 12, 0};
        for (int kind = 0; kind < 7; kind++) {
            ThirstPay x = new ThirstPay();
            x.farm(10 * kind, 7, 4);
            x.parch(0, 10);
            due(3, "PAY of " + kind, x.farmIs(0, 7), pays[kind]);
        }
    }

    private static void become() {
        ThirstPay x = new ThirstPay();
        x.farm(35, 8, 6);
        x.parch(0, 20);
        due(4, "become", x.become(0, 69), 3);
        due(4, "KIND", x.farmIs(0, 0), 6);
        due(4, "m", x.farmIs(0, 1), 9);
        due(4, "STEPS stay", x.farmIs(0, 2), 8);
        due(4, "HERD stays", x.farmIs(0, 3), 6);
        due(4, "DRY stays", x.farmIs(0, 4), 20);
        due(4, "become", x.become(0, 0), 6);
        due(4, "beyond", x.become(0, 70), BEYOND);
        due(4, "beyond", x.become(0, -1), BEYOND);
        due(4, "beyond", x.become(1, 0), BEYOND);
        due(4, "beyond", x.become(-1, 0), BEYOND);
        due(4, "KIND stays", x.farmIs(0, 0), 0);
    }

    private static void as() {
        String[] isAlso = {"0", "01", "02", "03", "014", "025", "06"};
        for (int kind = 0; kind < 7; kind++) {
            ThirstPay x = new ThirstPay();
            x.farm(10 * kind + 4, 1, 0);
            for (int as = 0; as < 7; as++) {
                boolean is = isAlso[kind].indexOf((char) ('0' + as)) >= 0;
                due(5, kind + " as " + as, x.as(0, as), is ? 4 : KIND);
            }
            due(5, "beyond", x.as(0, 7), BEYOND);
            due(5, "beyond", x.as(0, -1), BEYOND);
            due(5, "beyond", x.as(1, 0), BEYOND);
            due(5, "beyond", x.as(-1, 0), BEYOND);
        }
    }

    private static void parch() {
        ThirstPay x = new ThirstPay();
        x.farm(0, 1, 0);
        due(6, "parch", x.parch(0, 99), 0);
        due(6, "beyond", x.parch(0, 100), BEYOND);
        due(6, "beyond", x.parch(0, -1), BEYOND);
        due(6, "beyond", x.parch(1, 0), BEYOND);
        due(6, "beyond", x.parch(-1, 0), BEYOND);
        due(6, "DRY", x.farmIs(0, 4), 99);
        due(6, "parch", x.parch(0, 0), 99);
    }

    private static void graze() {
        ThirstPay x = new ThirstPay();
        x.farm(10, 1, 3);
        due(7, "graze", x.graze(0, 30), 3);
        due(7, "beyond", x.graze(0, 31), BEYOND);
        due(7, "beyond", x.graze(0, -1), BEYOND);
        due(7, "beyond", x.graze(1, 0), BEYOND);
        due(7, "beyond", x.graze(-1, 0), BEYOND);
        due(7, "it grows so", x.farmIs(0, 6), 8);
        due(7, "graze", x.graze(0, 0), 30);
        due(7, "HERD", x.farmIs(0, 3), 0);
    }

    private static void carrier() {
        ThirstPay x = new ThirstPay();
        due(8, "beyond", x.carrier(0), BEYOND);
        due(8, "beyond", x.carrier(301), BEYOND);
        due(8, "carrier", x.carrier(1), 0);
        due(8, "carrier", x.carrier(300), 1);
        due(8, "carrier", x.carrier(50), 2);
        due(8, "carrier", x.carrier(60), 3);
        due(8, "a fifth", x.carrier(60), FULL);
        due(8, "BEYOND is asked first", x.carrier(0), BEYOND);
        due(8, "four", x.count(1), 4);
        int[] bellies = {1, 300, 50, 60};
        for (int i = 0; i < 4; i++) {
            due(9, "BELLY", x.carrierIs(i, 0), bellies[i]);
            due(9, "EARNED", x.carrierIs(i, 1), 0);
        }
        due(9, "beyond", x.carrierIs(4, 0), BEYOND);
        due(9, "beyond", x.carrierIs(-1, 0), BEYOND);
        due(9, "beyond", x.carrierIs(0, 2), BEYOND);
        due(9, "beyond", x.carrierIs(0, -1), BEYOND);
    }

    private static void pool() {
        ThirstPay x = new ThirstPay();
        for (int i = 0; i < 3; i++) {
            due(10, "pool", x.pool(i, 999 - i), 0);
            due(10, "beyond", x.pool(i, 1000), BEYOND);
            due(10, "beyond", x.pool(i, -1), BEYOND);
        }
        for (int i = 0; i < 3; i++) {
            due(10, "pool", x.pool(i, 0), 999 - i);
        }
        due(10, "beyond", x.pool(3, 0), BEYOND);
        due(10, "beyond", x.pool(-1, 0), BEYOND);
    }

    private static void swap() {
        ThirstPay x = dryFarms(12, 34, 56);
        due(11, "swap", x.swap(0, 2), 56);
        due(11, "first", x.farmIs(0, 4), 56);
        due(11, "second", x.farmIs(2, 4), 12);
        due(11, "one between", x.farmIs(1, 4), 34);
        due(11, "one and the same", x.swap(1, 1), BEYOND);
        due(11, "beyond", x.swap(3, 0), BEYOND);
        due(11, "beyond", x.swap(0, 3), BEYOND);
        due(11, "beyond", x.swap(-1, 0), BEYOND);
        due(11, "beyond", x.swap(0, -1), BEYOND);
    }

    private static void carry() {
        ThirstPay x = new ThirstPay();
        x.farm(0, 4, 0);
        x.farm(30, 5, 0);
        x.farm(60, 6, 0);
        x.parch(0, 10);
        x.parch(1, 20);
        x.parch(2, 30);
        x.carrier(30);
        x.carrier(300);
        x.pool(1, 30);
        due(12, "no CARRIER", x.carry(2, 1, 1), BEYOND);
        due(12, "no CARRIER", x.carry(-1, 1, 1), BEYOND);
        due(12, "one at least", x.carry(0, 0, 1), BEYOND);
        due(12, "no FARM", x.carry(0, 8, 1), BEYOND);
        due(12, "no FARM", x.carry(0, -1, 1), BEYOND);
        due(12, "no FARM", x.carry(0, Integer.MIN_VALUE + 1, 1), BEYOND);
        due(12, "no POOL", x.carry(0, 1, 3), BEYOND);
        due(12, "no POOL", x.carry(0, 1, -1), BEYOND);
        due(12, "above BELLY", x.carry(0, 5, 1), STATE);
        due(12, "above WATER", x.carry(1, 5, 1), STATE);
        due(12, "nothing there", x.carry(1, 1, 0), STATE);
        due(12, "all that a BELLY and a POOL hold", x.carry(0, 3, 1), 14 + 50);
        due(12, "WATER", x.pool(1, 0), 0);
        due(12, "EARNED", x.carrierIs(0, 1), 64);
        due(12, "EARNED of another", x.carrierIs(1, 1), 0);
        due(12, "DRY", x.farmIs(0, 4), 0);
        due(12, "DRY", x.farmIs(1, 4), 0);
        due(12, "DRY of another", x.farmIs(2, 4), 30);
        due(12, "EASED", x.farmIs(0, 5), 10);
        due(12, "EASED", x.farmIs(1, 5), 20);
        due(12, "EASED of another", x.farmIs(2, 5), 0);
        due(12, "none is dry", x.carry(0, 3, 2), 4 + 10);
        due(12, "EARNED", x.carrierIs(0, 1), 78);
    }

    private static void carryHolds() {
        ThirstPay x = new ThirstPay();
        x.farm(0, 1, 0);
        x.carrier(300);
        x.carrier(99);
        text(x, 1, "999");
        for (int i = 0; i < 100; i++) {
            x.carry(0, 1, 0);
        }
        due(12, "EARNED", x.carrierIs(0, 1), 99900);
        due(12, "PAY is told whole", x.carry(0, 1, 0), 999);
        due(12, "EARNED is held", x.carrierIs(0, 1), 99999);
    }

    private static void feed() {
        ThirstPay x = new ThirstPay();
        due(13, "beyond", x.feed(0, 0), BEYOND);
        due(13, "beyond", x.feed(0, 9), BEYOND);
        due(13, "beyond", x.feed(0, -1), BEYOND);
        due(13, "the lowest byte alone", x.feed(0x7F7F7F7F7F7F7F67L, 1), 1);
        due(13, "count", x.count(4), 1);
        due(13, "the lowest first: g+0*9999", x.feed(0x393939392A302BL, 7), 8);
        due(14, "text", x.text(0), 1);
        due(13, "read", x.law(0, 3, 0, 0), 3);
        for (int i = 1; i <= 7; i++) {
            due(13, "eight at once", x.feed(0x3131313131313131L, 8), 8 * i);
        }
        due(13, "60 at most", x.feed(0x31313131313131L, 5), FULL);
        due(13, "BEYOND is asked first", x.feed(0, 9), BEYOND);
        due(13, "to the last", x.feed(0x31313131L, 4), 60);
        due(13, "none goes on", x.feed(0, 1), FULL);
        due(13, "count", x.count(4), 60);
    }

    private static void textFaults() {
        ThirstPay x = new ThirstPay();
        Object[][] faults = {
            {"", 0}, {"+", 0}, {" g", 0}, {"g ", 1}, {"g+", 2}, {"g+p", 2}, {"p", 0}, {"gd", 1}, {"1g", 1}, {"g1", 1},
            {"12345", 4}, {"0000+00000", 9}, {"1<2<3", 3}, {"1<2=3", 3}, {"1=2|3>4>5", 7}, {"(1<2)<3", -1},
            {"(", 1}, {"()", 1}, {"(g", 2}, {"g)", 1}, {"(g))", 3}, {"!", 1}, {"!!", 2}, {"g!", 1}, {"-1", 0}, {"1--1", 2},
            {"1&&2", 2}, {"1|&2", 2}, {"1%", 2}, {"1%%2", 2}, {"g|", 2}, {"g>=1", 2}, {"G", 0}, {"\u0000", 0},
            {"g\u00ff", 1}, {"12 ", 2}, {"s", 0}, {"h*d", -1}, {"(g)(d)", 3}, {"1234g", 4}, {"(12345)", 5},
            {"(g-1)/1000000", 10},
        };
        for (Object[] f : faults) {
            int fault = (Integer) f[1];
            due(14, "text of " + f[0], text(x, 0, (String) f[0]), fault < 0 ? 1 : -10 - fault);
            due(14, "THE TAPE is empty", x.count(4), 0);
        }
        due(14, "names of PAY", text(x, 1, "p+d*s"), 1);
        due(14, "not g", text(x, 1, "p+g"), -12);
        due(14, "not h", text(x, 1, "h"), -10);
        feed(x, "p");
        due(14, "beyond", x.text(2), BEYOND);
        due(14, "beyond", x.text(-1), BEYOND);
        due(14, "THE TAPE stays", x.count(4), 1);
        due(14, "and is read", x.text(1), 1);
        feed(x, "1+1+1+1+1+1+1+1+1+1+1+1+1+1+1+1+1+1+1+1+1+1+1+1+1+1+1+1+1+1+");
        due(14, "60 bytes", x.count(4), 60);
        due(14, "60 bytes that end too early", x.text(1), -70);
    }

    private static void textDepth() {
        ThirstPay x = new ThirstPay();
        Object[][] faults = {
            {"!!!!!g", -1}, {"!!!!!!g", 5}, {"(((((g)))))", -1}, {"((((((g))))))", 5}, {"(!(!(g))", 8}, {"(!(!(g)))", -1},
            {"(!(!(!g)))", 5}, {"(!(!((g))))", 5}, {"!!!!!g+!!!!!g", -1}, {"(((((g))))+(((((g", 15},
            {"((((!g+!d))))", -1}, {"((((!(g)+!d))))", 5},
        };
        for (Object[] f : faults) {
            int fault = (Integer) f[1];
            due(14, "text of " + f[0], text(x, 0, (String) f[0]), fault < 0 ? 1 : -10 - fault);
        }
    }

    private static void textValues() {
        ThirstPay x = new ThirstPay();
        Object[][] values = {
            {"p+d*s", 1, 2, 3, 7}, {"(p+d)*s", 1, 2, 3, 9}, {"p-d-s", 100, 20, 3, 77}, {"p-(d-s)", 100, 20, 3, 83},
            {"p/d/s", 100, 5, 2, 10}, {"p/d*s", 7, 2, 2, 6}, {"p%d", 17, 5, 0, 2}, {"0-p%d", -17, 5, 0, 2},
            {"p/d", 5, 0, 0, 0}, {"p%d", 5, 0, 0, 0}, {"5+p/d", -7, 2, 0, 2}, {"p|d", 0, 0, 0, 0}, {"p|d", 0, 4, 0, 1},
            {"p|d", -3, 0, 0, 1}, {"p&d", 3, 4, 0, 1}, {"p&d", 3, 0, 0, 0}, {"p&d|s", 0, 1, 5, 1}, {"s|d&p", 0, 1, 5, 1},
            {"p<d", 1, 2, 0, 1}, {"p<d", 2, 2, 0, 0}, {"p=d", 2, 2, 0, 1}, {"p=d", 1, 2, 0, 0}, {"p>d", 3, 2, 0, 1},
            {"p>d", 2, 2, 0, 0}, {"!p", 0, 0, 0, 1}, {"!p", 5, 0, 0, 0}, {"!!p", 5, 0, 0, 1}, {"!p+1", 5, 0, 0, 1},
            {"!p*7", 0, 0, 0, 7}, {"p+d<s", 1, 2, 4, 1}, {"7&p<d", 1, 2, 0, 1}, {"0123", 0, 0, 0, 123}, {"9999", 0, 0, 0, 999},
            {"p*d+7", 65536, 65536, 0, 7}, {"(p-1)/9999/2", Integer.MIN_VALUE, 0, 0, 999},
            {"p/d+s", Integer.MIN_VALUE, -1, Integer.MIN_VALUE, 0}, {"p%d+8", Integer.MIN_VALUE, -1, 0, 8},
            {"p+1-p", Integer.MAX_VALUE, 0, 0, 1}, {"(1|p)+(1&p)*10", 4, 0, 0, 11}, {"p", 500, 0, 0, 500},
        };
        for (Object[] v : values) {
            String text = (String) v[0];
            due(14, "text of " + text, text(x, 1, text), 1);
            due(14, text, x.law(1, (Integer) v[1], (Integer) v[2], (Integer) v[3]), (Integer) v[4]);
        }
    }

    private static void textReplaces() {
        ThirstPay x = new ThirstPay();
        due(14, "a TEXT", text(x, 0, "3"), 1);
        due(14, "in place of one ahead", text(x, 0, "4"), 1);
        due(14, "the latter", x.law(0, 0, 0, 0), 4);
        due(14, "a FAULT", text(x, 0, "5+"), -12);
        due(14, "the one ahead stays", x.law(0, 0, 0, 0), 4);
        due(14, "the other USE has none", x.law(1, 8, 0, 0), 8);
        due(14, "a FAULT is no ERROR", x.told(1) + x.told(2) + x.told(3) + x.told(4) + x.told(5) + x.told(6), 0);
    }

    private static void untell() {
        ThirstPay x = new ThirstPay();
        text(x, 0, "7");
        text(x, 1, "8");
        due(15, "untell", x.untell(0), 1);
        due(15, "again", x.untell(0), 0);
        due(15, "none now", x.law(0, 2, 0, 0), 2);
        due(15, "the other stays", x.law(1, 2, 0, 0), 8);
        due(15, "beyond", x.untell(2), BEYOND);
        due(15, "beyond", x.untell(-1), BEYOND);
        due(15, "untell", x.untell(1), 1);
    }

    private static void law() {
        ThirstPay x = new ThirstPay();
        due(16, "held", x.law(0, 10, 0, 0), 9);
        due(16, "held", x.law(0, -1, 0, 0), 0);
        due(16, "as it is", x.law(0, 9, 5, 6), 9);
        due(16, "held", x.law(1, 1000, 0, 0), 999);
        due(16, "held", x.law(1, Integer.MIN_VALUE, 0, 0), 0);
        due(16, "as it is", x.law(1, 999, 5, 6), 999);
        due(16, "beyond", x.law(2, 0, 0, 0), BEYOND);
        due(16, "beyond", x.law(-1, 0, 0, 0), BEYOND);
        text(x, 0, "g*100/(d*10+h)");
        due(16, "NAMES in order", x.law(0, 1, 2, 5), 4);
        due(16, "any number", x.law(0, 20, 0, 400), 5);
        text(x, 0, "h");
        due(16, "h as told", x.law(0, 0, 0, 1000), 9);
        text(x, 0, "0-5");
        due(16, "held", x.law(0, 0, 0, 0), 0);
        text(x, 1, "p*100+d*10+s");
        due(16, "NAMES in order", x.law(1, 1, 2, 3), 123);
        due(16, "held", x.law(1, 10, 2, 3), 999);
    }

    private static void hours() {
        ThirstPay x = new ThirstPay();
        due(17, "beyond", x.hours(0), BEYOND);
        due(17, "beyond", x.hours(73), BEYOND);
        due(17, "beyond", x.hours(-1), BEYOND);
        x.farm(3, 1, 0);
        x.farm(26, 1, 0);
        x.parch(0, 97);
        x.hour(6);
        due(17, "to 99 is not above", x.hours(1), 0);
        due(17, "DRY", x.farmIs(0, 4), 99);
        due(17, "above 99", x.hours(1), 1);
        due(17, "held at 99", x.farmIs(0, 4), 99);
        due(17, "SCHOOL at 6, 7", x.farmIs(1, 4), 6);
        due(17, "SCHOOL at 8", x.hours(1), 2);
        due(17, "SCHOOL at 8", x.farmIs(1, 4), 12);
        due(17, "HOUR", x.count(2), 9);
        due(17, "PARCHED", x.count(3), 2);
        due(17, "POOL 0", x.pool(0, 998), 3);
        due(17, "POOL 1", x.pool(1, 998), 6);
        due(17, "POOL 2", x.pool(2, 998), 9);
        x.hours(2);
        for (int i = 0; i < 3; i++) {
            due(17, "WATER is held", x.pool(i, 0), 999);
        }
        x.hour(9999 - 72);
        due(17, "to 9999", x.hours(72) > 0 ? x.count(2) : -1, 9999);
        due(17, "above 9999", x.hours(1), STATE);
        due(17, "BEYOND is asked first", x.hours(73), BEYOND);
        x.hour(9999 - 71);
        due(17, "above 9999", x.hours(72), STATE);
        due(17, "HOUR stays", x.count(2), 9999 - 71);
    }

    private static void hoursWithTexts() {
        ThirstPay x = new ThirstPay();
        x.farm(9, 1, 0);
        text(x, 0, "g-(d>5)*2+(h=2)");
        x.hours(1);
        due(17, "g is 4", x.farmIs(0, 4), 4);
        x.hours(1);
        due(17, "d is 4", x.farmIs(0, 4), 8);
        due(17, "GROWTH now", x.farmIs(0, 6), 3);
        x.hours(1);
        due(17, "d is 8, h is 2", x.farmIs(0, 4), 11);
        x.hour(26);
        due(17, "h is the rest by 24", x.farmIs(0, 6), 3);
        text(x, 0, "0-3");
        x.hours(5);
        due(17, "no less than 0", x.farmIs(0, 4), 11);
    }

    private static int drawn(int[] z) {
        z[0] = z[0] * 1103515245 + 12345;
        return z[0] >>> 8;
    }

    private static void loose() {
        ThirstPay x = new ThirstPay();
        due(18, "beyond", x.loose(0), BEYOND);
        due(18, "beyond", x.loose(25), BEYOND);
        due(18, "beyond", x.loose(-1), BEYOND);
        due(18, "neither FARMS nor CARRIERS", x.loose(24), 0);
        due(18, "no draws", x.count(7), 1);
        x.farm(0, 5, 0);
        due(18, "no CARRIERS", x.loose(1), 0);
        due(18, "no draws", x.count(7), 1);
        due(18, "HOURS go by", x.count(2), 25);
        due(18, "DRY", x.farmIs(0, 4), 1);
        ThirstPay none = new ThirstPay();
        none.carrier(9);
        none.loose(2);
        due(18, "no FARMS, no draws", none.count(7), 1);
        x.hour(9999 - 24);
        due(18, "to 9999", x.loose(24), 0);
        due(18, "above 9999", x.loose(1), STATE);
        due(18, "BEYOND is asked first", x.loose(25), BEYOND);
        looseByHand();
    }

    private static void looseByHand() {
        ThirstPay x = new ThirstPay();
        int[] dry = {3, 8, 5};
        int[] steps = {1, 10, 20};
        int[] bellies = {60, 120};
        int[] water = {0, 0, 0};
        int[] earned = {0, 0};
        for (int i = 0; i < 3; i++) {
            x.farm(0, steps[i], 0);
            x.parch(i, dry[i]);
        }
        carriers(x, bellies);
        x.seed(99);
        int[] z = {99};
        for (int hour = 0; hour < 60; hour++) {
            int carrier = drawn(z) % 2;
            int set = drawn(z) % 8;
            int pool = drawn(z) % 3;
            int load = 0;
            int pay = 0;
            for (int i = 0; i < 3; i++) {
                if ((set & 1 << i) != 0) {
                    load += dry[i];
                    pay += dry[i] + steps[i];
                }
            }
            boolean goes = set != 0 && load <= bellies[carrier] && load <= water[pool];
            if (goes) {
                water[pool] -= load;
                earned[carrier] += pay;
            }
            for (int i = 0; i < 3; i++) {
                dry[i] = (goes && (set & 1 << i) != 0 ? 0 : dry[i]) + 1;
                water[i] += i + 1;
            }
            due(18, "PAY in hour " + hour, x.loose(1), goes ? pay : 0);
            due(18, "z in hour " + hour, x.count(7), z[0]);
        }
        due(18, "EARNED", x.carrierIs(0, 1), earned[0]);
        due(18, "EARNED", x.carrierIs(1, 1), earned[1]);
        due(18, "somebody went", earned[0] + earned[1] > 0 ? 1 : 0, 1);
    }

    private static void hourAndSeed() {
        ThirstPay x = new ThirstPay();
        due(19, "hour", x.hour(9999), 0);
        due(19, "beyond", x.hour(10000), BEYOND);
        due(19, "beyond", x.hour(-1), BEYOND);
        due(19, "hour", x.hour(0), 9999);
        due(20, "seed", x.seed(Integer.MIN_VALUE), 1);
        due(20, "seed", x.seed(BEYOND), Integer.MIN_VALUE);
        due(20, "z", x.count(7), BEYOND);
        due(20, "seed", x.seed(0), BEYOND);
        due(20, "no ERROR", x.told(1), 2);
    }

    private static void then() {
        ThirstPay x = new ThirstPay();
        x.farm(57, 1, 0);
        x.hour(6);
        due(21, "now", x.then(0, 0), 0);
        due(21, "6", x.then(0, 1), 3);
        due(21, "7", x.then(0, 2), 9);
        due(21, "8", x.then(0, 3), 15);
        due(21, "held", x.then(0, 72), 99);
        due(21, "only thought", x.farmIs(0, 4), 0);
        due(21, "only thought", x.count(2), 6);
        due(21, "only thought", x.count(3), 0);
        x.hour(9999);
        due(21, "9999 and 10000 are at 15 and 16 of a day", x.then(0, 2), 3 + 3);
        due(21, "10003 is divided by 7", x.then(0, 5), 4 * 3 + 6);
        due(21, "10016 is at 8 of a day", x.then(0, 18) - x.then(0, 17), 6);
        due(21, "beyond", x.then(0, 73), BEYOND);
        due(21, "beyond", x.then(0, -1), BEYOND);
        due(21, "beyond", x.then(1, 0), BEYOND);
        due(21, "beyond", x.then(-1, 0), BEYOND);
        text(x, 0, "d=0");
        due(21, "d is thought, too", x.then(0, 9), 1);
        text(x, 0, "h=0");
        due(21, "h is thought, too", x.then(0, 72), 3);
    }

    private static void first() {
        ThirstPay x = new ThirstPay();
        due(22, "no FARMS", x.first(0, 0), NONE);
        x.farm(0, 1, 0);
        x.farm(9, 1, 0);
        x.farm(9, 1, 0);
        due(22, "the least", x.first(0, 0), 0);
        due(22, "behind 1", x.first(0, 1), 1);
        due(22, "which", x.first(1, 0), 1);
        due(22, "as DRY is not more", x.first(4, 1), 2);
        x.parch(2, 20);
        due(22, "now", x.first(19, 1), 0);
        due(22, "which", x.first(19, 0), 2);
        due(22, "none is more than 99", x.first(99, 0), NONE);
        due(22, "beyond", x.first(100, 0), BEYOND);
        due(22, "beyond", x.first(-1, 0), BEYOND);
        due(22, "beyond", x.first(0, 2), BEYOND);
        due(22, "beyond", x.first(0, -1), BEYOND);
        ThirstPay slow = new ThirstPay();
        slow.farm(0, 1, 0);
        due(22, "behind 72", slow.first(71, 1), 72);
        due(22, "not by 72", slow.first(72, 1), NONE);
        due(22, "only thought", slow.farmIs(0, 4), 0);
        slow.become(0, 20);
        slow.hour(6);
        due(22, "a SCHOOL at 6, 7, 8, 9", slow.first(5, 1), 4);
    }

    private static void round() {
        ThirstPay x = dryFarms(10, 20, 20, 30);
        carriers(x, 40, 9, 300);
        due(23, "PAY is most", x.round(0, 1), 42);
        due(23, "the least of several: 1 and 2, or 0 and 3", x.round(0, 0), 6);
        due(23, "none goes in", x.round(1, 0), 0);
        due(23, "none pays", x.round(1, 1), 0);
        due(23, "all", x.round(2, 0), 15);
        due(23, "all", x.round(2, 1), 84);
        x.become(3, 60);
        due(23, "a HERMIT pays nothing", x.round(2, 0), 7);
        text(x, 1, "0");
        due(23, "none pays", x.round(2, 0), 0);
        due(23, "none pays", x.round(2, 1), 0);
        due(23, "beyond", x.round(3, 0), BEYOND);
        due(23, "beyond", x.round(-1, 0), BEYOND);
        due(23, "beyond", x.round(0, 2), BEYOND);
        due(23, "beyond", x.round(0, -1), BEYOND);
        ThirstPay none = new ThirstPay();
        none.carrier(5);
        due(23, "no FARMS", none.round(0, 0), 0);
        none.farm(0, 1, 0);
        none.farm(60, 1, 0);
        due(23, "the first alone", none.round(0, 0), 1);
        due(23, "PAY is 1", none.round(0, 1), 1);
    }

    private static void dueFewest(ThirstPay x, int above, int... want) {
        for (int i = 0; i < want.length; i++) {
            due(24, "fewest(" + above + ", " + (i - 1) + ")", x.fewest(above, i - 1), want[i]);
        }
    }

    private static void fewest() {
        ThirstPay x = dryFarms(30, 30, 20, 10);
        dueFewest(x, 30, 0, -1, -1, -1, -1, -1, -1, -1);
        due(24, "without CARRIERS", x.fewest(29, -1), NONE);
        carriers(x, 40, 50, 45);
        dueFewest(x, 20, 2, 0, 1, -1, -1, -1, -1, -1);
        dueFewest(x, 10, 2, 0, 1, 1, -1, -1, -1, -1);
        dueFewest(x, 0, 2, 0, 1, 1, 0, -1, -1, -1);
        x.parch(3, 11);
        dueFewest(x, 0, 2, 1, 2, 1, 2, -1, -1, -1);
        x.parch(3, 16);
        dueFewest(x, 0, 3, 0, 1, 1, 2, -1, -1, -1);
        x.parch(3, 51);
        due(24, "not even by all", x.fewest(0, 3), NONE);
        due(24, "beyond", x.fewest(-1, 0), BEYOND);
        due(24, "beyond", x.fewest(100, 0), BEYOND);
        due(24, "beyond", x.fewest(0, -2), BEYOND);
        due(24, "beyond", x.fewest(0, 7), BEYOND);
        // The first way by FARMS would take three: fewest comes ahead of it.
        ThirstPay y = dryFarms(10, 50, 40);
        carriers(y, 10, 50, 50);
        dueFewest(y, 0, 2, 1, 2, 1, -1, -1, -1, -1);
        ThirstPay full = dryFarms(60, 60, 60, 60, 60, 60, 60);
        carriers(full, 119, 120, 120, 120);
        dueFewest(full, 59, 4, 0, 1, 1, 2, 2, 3, 3);
    }

    private static void odds() {
        ThirstPay x = new ThirstPay();
        due(25, "no CARRIER", x.odds(0, 0), BEYOND);
        x.carrier(30);
        due(25, "no FARMS", x.odds(0, 0), STATE);
        due(25, "BEYOND is asked first", x.odds(0, 2), BEYOND);
        x = dryFarms(10, 20, 30, 40);
        carriers(x, 30, 9, 300, 10);
        due(25, "10, 20, 30 and 10 with 20 of 15", x.odds(0, 0), 4);
        due(25, "10, 20, 30 and 10 with 20 of 15", x.odds(0, 1), 15);
        due(25, "never", x.odds(1, 0), 0);
        due(25, "0 is 0 by 1", x.odds(1, 1), 1);
        due(25, "always", x.odds(2, 0), 1);
        due(25, "always", x.odds(2, 1), 1);
        x.parch(0, 11);
        x.parch(1, 20);
        due(25, "lowest terms", x.odds(0, 0), 1);
        due(25, "lowest terms", x.odds(0, 1), 5);
        due(25, "beyond", x.odds(4, 0), BEYOND);
        due(25, "beyond", x.odds(-1, 0), BEYOND);
        due(25, "beyond", x.odds(0, -1), BEYOND);
        due(25, "beyond", x.odds(0, 2), BEYOND);
    }

    private static void whose() {
        ThirstPay x = dryFarms(10, 20, 30, 0);
        due(26, "30 by how many", x.whose(30, 0), 4);
        due(26, "30 by the least", x.whose(30, 1), 3);
        due(26, "0 by how many", x.whose(0, 0), 1);
        due(26, "0 by the least", x.whose(0, 1), 8);
        due(26, "none", x.whose(15, 0), 0);
        due(26, "none", x.whose(15, 1), NONE);
        due(26, "none", x.whose(Integer.MAX_VALUE, 1), NONE);
        due(26, "all", x.whose(60, 1), 7);
        due(26, "all", x.whose(60, 0), 2);
        due(26, "the first", x.whose(10, 0), 2);
        due(26, "the first", x.whose(10, 1), 1);
        due(26, "beyond", x.whose(-1, 0), BEYOND);
        due(26, "beyond", x.whose(0, 2), BEYOND);
        due(26, "beyond", x.whose(0, -1), BEYOND);
        due(26, "no FARMS", new ThirstPay().whose(0, 0), 0);
    }

    private static void fits() {
        ThirstPay x = new ThirstPay();
        x.farm(0, 1, 0);
        x.farm(3, 1, 0);
        due(27, "missing", x.fits(0), NONE);
        due(27, "beyond", x.fits(4), BEYOND);
        due(27, "beyond", x.fits(-1), BEYOND);
        sheet(x, 0, 8, 0, 0);
        due(27, "now", x.fits(0), 0);
        sheet(x, 0, 16, 5, 10);
        due(27, "behind 5", x.fits(0), 5);
        sheet(x, 0, 32, 5, 11);
        due(27, "never", x.fits(0), NONE);
        sheet(x, 0, 32, 72);
        due(27, "behind 72", x.fits(0), 72);
        sheet(x, 0, 32, 73);
        due(27, "not by 72", x.fits(0), NONE);
        sheet(x, 0, 32, 72, 99);
        due(27, "held at 99", x.fits(0), 72);
        sheet(x, 0, 8, 0, 0, 0);
        due(27, "there is no third FARM", x.fits(0), NONE);
        x.sheet(0, 8, 0);
        due(27, "nothing told", x.fits(0), 0);
        due(27, "only thought", x.farmIs(1, 4), 0);
        x.become(0, 20);
        x.hour(6);
        sheet(x, 0, 8, 6);
        due(27, "a SCHOOL at 6, 7, 8, 9", x.fits(0), 4);
        x.hour(0);
        due(27, "only thought", x.count(2), 0);
    }

    private static void dueVoice(int kind, int voice, int want, int... bodies) {
        ThirstPay x = new ThirstPay();
        for (int i = 0; i < 4; i++) {
            x.farm(10 * kind + 8, 1, 0);
        }
        due(28, "voice " + voice + " of " + kind, x.voice(3, voice, 7), want);
        due(29, "how many BODIES", x.count(6), bodies.length);
        for (int i = 0; i < bodies.length; i++) {
            due(29, "BODY " + i + " of voice " + voice + " of " + kind, x.body(i), bodies[i]);
        }
        due(29, "no more", x.body(bodies.length), NONE);
        due(29, "none ahead", x.body(-1), NONE);
    }

    private static void voicesByKind() {
        // k is 3, m is 8, x is 7.
        dueVoice(0, 0, 10, 10);
        dueVoice(0, 1, 20, 11, 10);
        dueVoice(0, 2, 12, 12, 11, 10);
        dueVoice(0, 3, 1, 13);
        dueVoice(1, 0, 6, 20, 10);
        dueVoice(1, 1, 12, 11, 20, 10);
        dueVoice(1, 2, 4, 12, 11, 20, 10);
        dueVoice(1, 3, 1 + 0, 21, 13, 11, 20, 10);
        dueVoice(2, 0, 10, 10);
        dueVoice(2, 1, -20, 30, 11, 10);
        dueVoice(2, 2, -28, 12, 30, 11, 10);
        dueVoice(2, 3, 1, 13);
        dueVoice(3, 0, 10, 10);
        dueVoice(3, 1, 20, 11, 10);
        dueVoice(3, 2, 4, 40, 12, 11, 10);
        dueVoice(3, 3, 1, 13);
        dueVoice(4, 0, 18, 50, 20, 10);
        dueVoice(4, 1, 36, 11, 50, 20, 10);
        dueVoice(4, 2, 28 ^ 3, 51, 12, 11, 50, 20, 10);
        dueVoice(4, 3, 1 + 0, 21, 13, 11, 50, 20, 10);
        dueVoice(5, 0, 10, 10);
        dueVoice(5, 1, -22, 60, 30, 11, 10);
        dueVoice(5, 2, -30, 12, 60, 30, 11, 10);
        dueVoice(5, 3, 1, 13);
        dueVoice(6, 0, 9, 70);
        dueVoice(6, 1, 26, 71, 11, 70);
        dueVoice(6, 2, 18, 12, 71, 11, 70);
        dueVoice(6, 3, 1, 13);
        ThirstPay x = new ThirstPay();
        x.farm(33, 1, 0);
        x.farm(0, 1, 0);
        x.farm(10, 1, 0);
        x.farm(47, 1, 0);
        x.become(2, 19);
        due(28, "parts of a DAIRY", x.voice(2, 3, 15), 15 / 7 + 2 * (1 + 2 - 4));
        due(28, "sighs of a BULL", x.voice(3, 2, 7), 29 ^ 3);
        due(28, "x / 2 is cut toward 0", x.voice(0, 2, -3), -1 * 2 - 3);
        due(28, "parts is cut toward 0", x.voice(0, 3, -5), -1);
        due(28, "ints wrap", x.voice(1, 0, Integer.MAX_VALUE), Integer.MIN_VALUE);
        due(28, "ints wrap", x.voice(1, 3, Integer.MIN_VALUE), Integer.MIN_VALUE);
        due(28, "any number", x.voice(1, 0, BEYOND - 1), BEYOND);
        due(28, "which is no ERROR", x.told(1), 0);
        due(28, "beyond", x.voice(4, 0, 0), BEYOND);
        due(28, "beyond", x.voice(-1, 0, 0), BEYOND);
        due(28, "beyond", x.voice(0, 4, 0), BEYOND);
        due(28, "beyond", x.voice(0, -1, 0), BEYOND);
        due(29, "THE TRACE stays", x.body(0), 10);
    }

    private static void voiceParted() {
        ThirstPay x = new ThirstPay();
        x.farm(10, 1, 0);
        x.farm(31, 1, 0);
        x.voice(0, 1, 5);
        due(28, "m is k", x.voice(0, 3, 5), PARTED);
        due(29, "what began", x.count(6), 2);
        due(29, "what began", x.body(0), 21);
        due(29, "what began", x.body(1), 13);
        due(28, "m is k", x.voice(1, 3, 5), PARTED);
        due(28, "one more each", x.told(6), 2);
        due(28, "the next answers again", x.voice(1, 0, 5), 6);
    }

    private static void sheetAndPut() {
        ThirstPay x = new ThirstPay();
        due(30, "beyond", x.sheet(4, 8, 1), BEYOND);
        due(30, "beyond", x.sheet(-1, 8, 1), BEYOND);
        due(30, "beyond", x.sheet(0, 1, 1), BEYOND);
        due(30, "beyond", x.sheet(0, 64, 1), BEYOND);
        due(30, "beyond", x.sheet(0, -8, 1), BEYOND);
        due(30, "below 0", x.sheet(0, 8, -1), STATE);
        due(30, "below 0", x.sheet(0, 32, Integer.MIN_VALUE), STATE);
        due(30, "bits ahead of n", x.sheet(0, 7, -1), BEYOND);
        due(30, "beyond", x.sheet(0, 8, 25), BEYOND);
        due(31, "still missing", x.put(0, 0, 0), NONE);
        due(30, "24", x.sheet(0, 8, 24), 1);
        due(31, "the last", x.put(0, 23, 5), 1);
        due(31, "beyond", x.put(0, 24, 5), BEYOND);
        due(31, "beyond", x.put(0, -1, 5), BEYOND);
        due(31, "beyond", x.put(4, 0, 5), BEYOND);
        due(31, "beyond", x.put(-1, 0, 5), BEYOND);
        due(31, "none", x.put(1, 0, 5), NONE);
        due(31, "none ahead of beyond", x.put(1, -1, 5), NONE);
        due(30, "missing", x.sheet(0, 0, -5), 1);
        due(31, "missing", x.put(0, 0, 0), NONE);
        due(30, "missing, whatever n", x.sheet(0, 0, 500), 1);
        x.farm(0, 1, 0);
        int[] bits = {8, 16, 32};
        int[] reads = {1, 1, 0};
        for (int i = 0; i < 3; i++) {
            sheet(x, i, bits[i], 65536 + 7);
            due(31, "its lowest bits", x.parches(i), reads[i]);
        }
        sheet(x, 0, 8, 256 + 99);
        due(31, "8 bits", x.parches(0) == 1 ? x.farmIs(0, 4) : -1, 99);
        sheet(x, 1, 16, 256 + 99);
        due(31, "16 bits", x.parches(1), 0);
        sheet(x, 1, 16, -65536 + 4);
        due(31, "16 bits", x.parches(1) == 1 ? x.farmIs(0, 4) : -1, 4);
        x.sheet(1, 16, 1);
        due(30, "all 0", x.parches(1) == 1 ? x.farmIs(0, 4) : -1, 0);
        x.parch(0, 99);
        x.graze(0, 0);
        x.become(0, 30);
        sheet(x, 0, 8, 200);
        sheet(x, 1, 16, 200);
        due(34, "8 bits have a sign", x.judge(0), 0);
        due(34, "16 bits hold it", x.judge(1), 1);
    }

    private static void dueFits(ThirstPay x, int sheet, int... dry) {
        for (int i = 0; i < dry.length; i++) {
            x.parch(i, dry[i]);
        }
        due(32, "numbers of SHEET " + sheet, x.fits(sheet), 0);
    }

    private static void move() {
        ThirstPay x = dryFarms(0, 0, 0, 0, 0);
        sheet(x, 0, 16, 1, 2, 3, 4, 5);
        sheet(x, 1, 16, 9, 9, 9);
        sheet(x, 2, 8, 1, 2, 3);
        due(32, "move", x.move(0, 1, 1, 0, 2), 2);
        dueFits(x, 1, 2, 3, 9);
        dueFits(x, 0, 1, 2, 3, 4, 5);
        due(32, "to the same, up", x.move(0, 0, 0, 1, 4), 4);
        dueFits(x, 0, 1, 1, 2, 3, 4);
        due(32, "to the same, down", x.move(0, 1, 0, 0, 4), 4);
        dueFits(x, 0, 1, 2, 3, 4, 4);
        due(32, "none", x.move(0, 5, 1, 3, 0), 0);
        due(32, "a whole row", x.move(0, 0, 0, 0, 5), 5);
        dueFits(x, 0, 1, 2, 3, 4, 4);
        due(32, "no such SHEET", x.move(4, 0, 1, 0, 1), BEYOND);
        due(32, "no such SHEET", x.move(0, 0, -1, 0, 1), BEYOND);
        due(32, "missing", x.move(3, 0, 0, 0, 1), NONE);
        due(32, "missing", x.move(0, 0, 3, 0, -1), NONE);
        due(32, "no such SHEET ahead of missing", x.move(3, 0, 4, 0, 1), BEYOND);
        due(32, "unlike bits", x.move(0, 0, 2, 0, 1), KIND);
        due(32, "unlike bits ahead of beyond", x.move(0, -1, 2, 0, 99), KIND);
        int[][] beyond = {{0, 0, -1}, {-1, 0, 1}, {0, -1, 1}, {5, 0, 1}, {6, 0, 0}, {0, 4, 0}, {3, 0, 3}, {0, 1, 3},
            {Integer.MAX_VALUE, 0, 1}, {0, 0, Integer.MAX_VALUE}, {1, 1, Integer.MAX_VALUE}, {Integer.MIN_VALUE, 0, 0}};
        for (int[] b : beyond) {
            due(32, "beyond", x.move(0, b[0], 1, b[1], b[2]), BEYOND);
        }
        dueFits(x, 1, 2, 3, 9);
    }

    private static void parches() {
        ThirstPay x = dryFarms(50, 50, 50);
        due(33, "missing", x.parches(0), NONE);
        due(33, "beyond", x.parches(4), BEYOND);
        due(33, "beyond", x.parches(-1), BEYOND);
        sheet(x, 0, 8, 0, 99, 100, 7);
        due(33, "up to what is not 0 to 99", x.parches(0), 2);
        due(33, "DRY", x.farmIs(0, 4), 0);
        due(33, "DRY", x.farmIs(1, 4), 99);
        due(33, "DRY stays", x.farmIs(2, 4), 50);
        sheet(x, 0, 32, 8, -1, 9);
        due(33, "below 0", x.parches(0), 1);
        sheet(x, 0, 32, 1, 2, 3, 4);
        due(33, "up to what has no FARM", x.parches(0), 3);
        due(33, "DRY", x.farmIs(2, 4), 3);
        due(33, "no ERROR", x.told(3) + x.told(4), 0);
    }

    private static void judge() {
        ThirstPay x = new ThirstPay();
        due(34, "missing", x.judge(0), NONE);
        due(34, "beyond", x.judge(4), BEYOND);
        due(34, "beyond", x.judge(-1), BEYOND);
        sheet(x, 0, 32, 5);
        due(34, "there is no FARM", x.judge(0), 0);
        x.farm(0, 5, 0);
        x.farm(30, 6, 0);
        x.farm(0, 7, 0);
        sheet(x, 0, 16, 5, 12, 7, 0);
        due(34, "all are right", x.judge(0), 3);
        sheet(x, 0, 16, 5, 11, 7);
        due(34, "from the first on", x.judge(0), 1);
        sheet(x, 0, 16, 4, 12, 7);
        due(34, "from the first on", x.judge(0), 0);
        text(x, 1, "p*10");
        sheet(x, 0, 32, 50, 120);
        due(34, "PAY by its TEXT", x.judge(0), 2);
    }

    private static void imageAndRestore() {
        ThirstPay x = new ThirstPay();
        x.farm(35, 8, 6);
        x.parch(0, 20);
        x.carrier(77);
        x.pool(0, 100);
        x.carry(0, 1, 0);
        x.parch(0, 30);
        x.hour(500);
        x.seed(1234);
        text(x, 1, "p+1");
        feed(x, "g+");
        x.tell(5);
        sheet(x, 0, 8, 30);
        x.voice(0, 0, 1);
        due(35, "once", x.image(), 1);
        x.become(0, 11);
        x.graze(0, 1);
        x.farm(0, 3, 0);
        x.parch(1, 40);
        x.carrier(300);
        x.pool(1, 500);
        x.carry(1, 3, 1);
        x.hours(72);
        x.loose(3);
        x.untell(1);
        text(x, 0, "7");
        feed(x, "12345");
        x.check();
        x.tell(1);
        x.tell(2);
        sheet(x, 0, 8, 31);
        x.voice(0, 1, 1);
        due(36, "restore", x.restore(), 500);
        int[] is = {3, 5, 8, 6, 30, 20, 2, 77};
        for (int i = 0; i < is.length; i++) {
            due(36, "farmIs " + i, x.farmIs(0, i), is[i]);
        }
        due(36, "one CARRIER", x.carrierIs(1, 0), BEYOND);
        due(36, "BELLY", x.carrierIs(0, 0), 77);
        due(36, "EARNED", x.carrierIs(0, 1), 56);
        due(36, "WATER", x.pool(0, 0), 80);
        due(36, "WATER", x.pool(1, 0), 0);
        int[] counts = {1, 1, 500, 0, 2, 1, 3, 1234};
        for (int i = 0; i < counts.length; i++) {
            due(36, "count " + i, x.count(i), counts[i]);
        }
        due(36, "THE TAPE goes on", x.feed('3', 1), 3);
        due(36, "as it was", x.text(0), 1);
        due(36, "as it was", x.law(0, 4, 0, 0), 7);
        due(36, "the number waits", x.check(), 1);
        due(36, "SHEETS stay", x.put(0, 0, 30), 1);
        due(36, "a new FARM is not dry", x.farm(0, 1, 0), 1);
        due(36, "a new FARM is not dry", x.farmIs(1, 4), 0);
        due(36, "a new FARM is not eased", x.farmIs(1, 5), 0);
        x.carrier(9);
        due(36, "a new CARRIER earned nothing", x.carrierIs(1, 1), 0);
        due(36, "it stays", x.restore(), 500);
        due(36, "one FARM", x.count(0), 1);
        x.hour(7);
        due(35, "in place of one ahead", x.image(), 2);
        x.hour(8);
        due(36, "the later one", x.restore(), 7);
        due(35, "how often is no part of it", x.image(), 3);
    }

    private static void tellAndCheck() {
        ThirstPay x = new ThirstPay();
        due(38, "none wait", x.check(), 0);
        for (int i = 1; i <= 24; i++) {
            due(37, "tell", x.tell(0), i);
        }
        due(37, "a 25th", x.tell(0), FULL);
        due(37, "24 wait", x.count(5), 24);
        due(38, "there is no CARRIER", x.check(), 1);
        due(38, "none do then", x.count(5), 0);
        x.farm(0, 7, 0);
        x.carrier(50);
        x.carrier(60);
        x.carry(1, 1, 0);
        x.tell(0);
        due(38, "as far as told", x.check(), 0);
        x.tell(0);
        x.tell(7);
        due(38, "all are so", x.check(), 0);
        x.tell(0);
        x.tell(6);
        due(38, "the second isn't", x.check(), 2);
        x.tell(-1);
        x.tell(6);
        due(38, "the first isn't", x.check(), 1);
        x.tell(0);
        x.tell(7);
        x.tell(0);
        due(38, "there is no third", x.check(), 3);
        due(38, "none wait", x.count(5), 0);
    }

    private static void count() {
        ThirstPay x = dryFarms(1, 2, 99);
        carriers(x, 5, 6);
        x.hours(4);
        feed(x, "12345");
        x.tell(1);
        x.tell(2);
        x.tell(3);
        x.tell(4);
        x.tell(5);
        x.tell(6);
        x.voice(0, 2, 0);
        x.seed(-9);
        int[] counts = {3, 2, 4, 4, 5, 6, 3, -9};
        for (int i = 0; i < counts.length; i++) {
            due(39, "count " + i, x.count(i), counts[i]);
        }
        due(39, "beyond", x.count(8), BEYOND);
        due(39, "beyond", x.count(-1), BEYOND);
    }

    private static void told() {
        ThirstPay x = new ThirstPay();
        x.farm(0, 1, 0);
        x.hour(-1);
        x.hour(-1);
        x.restore();
        x.body(0);
        x.body(0);
        x.sheet(0, 8, -1);
        for (int i = 0; i < 28; i++) {
            x.tell(0);
        }
        for (int i = 0; i < 5; i++) {
            x.as(0, 1);
        }
        for (int i = 0; i < 6; i++) {
            x.voice(0, 3, 1);
        }
        int[] told = {2, 3, 1, 4, 5, 6};
        for (int k = 1; k <= 6; k++) {
            due(40, "told " + k, x.told(k), told[k - 1]);
        }
        due(40, "beyond", x.told(0), BEYOND);
        due(40, "beyond", x.told(7), BEYOND);
        due(40, "counted, too", x.told(1), 4);
    }

    private static void refusalsChangeNothing() {
        ThirstPay x = dryFarms(5, 6);
        carriers(x, 4);
        x.hour(9990);
        x.hours(10);
        x.loose(10);
        x.carry(0, 1, 2);
        x.swap(0, 2);
        x.law(5, 1, 1, 1);
        x.feed(0, 9);
        due(17, "DRY stays", x.farmIs(0, 4), 5);
        due(11, "DRY stays", x.farmIs(1, 4), 6);
        due(18, "z stays", x.count(7), 1);
        due(17, "HOUR stays", x.count(2), 9990);
        due(12, "EARNED stays", x.carrierIs(0, 1), 0);
        due(13, "THE TAPE stays", x.count(4), 0);
        due(40, "STATE", x.told(3), 3);
        due(40, "BEYOND", x.told(1), 3);
    }
}
