/**
 * Each sentence of the document that names an edge, in the document's order: too small, too large, empty, full, held,
 * cut, a wrap-around. What is refused, and that it changes nothing, is in RefusalsTest.
 */
public final class EdgesTest extends Checks {
    private static final int MIN = Integer.MIN_VALUE;
    private static final int MAX = Integer.MAX_VALUE;

    public static void main(String[] args) {
        errorsByNumber();
        kindsAndNumbers();
        stepsAndHerds();
        growthIsCut();
        growthByHour();
        growthIsHeld();
        payIsCut();
        anHourHoldsDry();
        parchedIsHeld();
        waterIsHeld();
        hourEnds();
        carryToTheBrim();
        carryOfNoneDry();
        payIsAheadOfCarrying();
        earnedIsHeld();
        easedIsHeld();
        drawsWithoutAny();
        drawsOfTheOnlyOnes();
        drawsOfAnEmptySet();
        drawsNotLawful();
        looseIsOneHourAfterAnother();
        looseEnds();
        numbersOfDigits();
        firstByteOfAText();
        nextByteOfAText();
        openAtOnce();
        endsTooEarly();
        namesByUse();
        sixtyBytes();
        intsWrap();
        byNothing();
        usesAreHeld();
        feedByBytes();
        textOfAnEmptyTape();
        thenEnds();
        thenBeyond9999();
        firstEnds();
        roundEnds();
        fewestEnds();
        fewestForgetsTheLastWay();
        oddsEnds();
        whoseEnds();
        fitsEnds();
        voicesWrap();
        traceOfTheLatest();
        sheetSizes();
        sheetBits();
        sheetsAreApart();
        moveInOneRow();
        moveOfNone();
        parchesEnds();
        judgeEnds();
        imageKeepsEach();
        imageLeavesSome();
        restoreGoesBackAndBackAgain();
        tellAndCheckEnds();
        toldOf511();
        acts512();
        end("EdgesTest");
    }

    private static ThirstPay farms(int... kindsAndMs) {
        ThirstPay x = new ThirstPay();
        for (int km : kindsAndMs) {
            x.farm(km, 1, 0);
        }
        return x;
    }

    private static ThirstPay sevenDry(int dry) {
        return dryFarms(dry, dry, dry, dry, dry, dry, dry);
    }

    // ---- the terms, 1

    private static void errorsByNumber() {
        ThirstPay x = farms(0);
        due(40, "BEYOND", x.told(0), -1000000001);
        due(36, "NONE", x.restore(), -1000000002);
        due(30, "STATE", x.sheet(0, 8, -1), -1000000003);
        for (int i = 0; i < 24; i++) {
            x.tell(0);
        }
        due(37, "FULL", x.tell(0), -1000000004);
        due(5, "KIND", x.as(0, 6), -1000000005);
        due(28, "PARTED", x.voice(0, 3, 1), -1000000006);
    }

    private static void kindsAndNumbers() {
        for (int first = 0; first < 70; first += 7) {
            ThirstPay x = new ThirstPay();
            ThirstPay y = farms(0, 0, 0, 0, 0, 0, 0);
            for (int i = 0; i < 7; i++) {
                int km = first + i;
                due(2, "farm of " + km, x.farm(km, 1, 0), i);
                due(2, "KIND of " + km, x.farmIs(i, 0), km / 10);
                due(2, "m of " + km, x.farmIs(i, 1), km % 10);
                due(4, "become " + km, y.become(i, km), 0);
                due(4, "KIND of " + km, y.farmIs(i, 0), km / 10);
                due(4, "m of " + km, y.farmIs(i, 1), km % 10);
                due(5, km + " as its own KIND", y.as(i, km / 10), km % 10);
                due(5, km + " as a FARM", y.as(i, 0), km % 10);
            }
        }
    }

    private static void stepsAndHerds() {
        ThirstPay x = new ThirstPay();
        due(2, "STEPS 1, HERD 0", x.farm(0, 1, 0), 0);
        due(2, "STEPS 40, HERD 30", x.farm(0, 40, 30), 1);
        due(3, "STEPS", x.farmIs(0, 2), 1);
        due(3, "STEPS", x.farmIs(1, 2), 40);
        due(3, "HERD", x.farmIs(0, 3), 0);
        due(3, "HERD", x.farmIs(1, 3), 30);
        due(7, "HERD 30 becomes 0", x.graze(1, 0), 30);
        due(7, "HERD 0 becomes 30", x.graze(0, 30), 0);
        due(7, "HERD", x.farmIs(0, 3), 30);
        due(7, "HERD", x.farmIs(1, 3), 0);
        due(6, "DRY 0 becomes 99", x.parch(0, 99), 0);
        due(6, "DRY 99 becomes 0", x.parch(0, 0), 99);
        due(8, "a BELLY of 1", x.carrier(1), 0);
        due(8, "a BELLY of 300", x.carrier(300), 1);
        due(9, "BELLY", x.carrierIs(0, 0), 1);
        due(9, "BELLY", x.carrierIs(1, 0), 300);
        due(10, "WATER 0 becomes 999", x.pool(2, 999), 0);
        due(10, "WATER 999 becomes 0", x.pool(2, 0), 999);
    }

    private static void growthIsCut() {
        int[] byM = {1, 1, 1, 2, 2, 2, 3, 3, 3, 4};
        int[] byHerd = {0, 0, 0, 0, 1, 1, 1, 1, 2, 2, 2, 2, 3, 3, 3, 3, 4, 4, 4, 4, 5, 5, 5, 5, 6, 6, 6, 6, 7, 7, 7};
        ThirstPay x = farms(0);
        x.hour(1);
        for (int m = 0; m < 10; m++) {
            x.become(0, m);
            due(3, "FARM of m " + m, x.farmIs(0, 6), byM[m]);
            x.become(0, 30 + m);
            due(3, "INN of m " + m, x.farmIs(0, 6), byM[m]);
            x.become(0, 60 + m);
            due(3, "HERMIT of m " + m, x.farmIs(0, 6), byM[m] - 1);
            x.become(0, 40 + m);
            due(3, "BULL of m " + m, x.farmIs(0, 6), Math.min(9, byM[m] + m));
        }
        for (int herd = 0; herd <= 30; herd++) {
            x.graze(0, herd);
            x.become(0, 10);
            due(3, "DAIRY with a HERD of " + herd, x.farmIs(0, 6), 1 + byHerd[herd]);
            x.become(0, 40);
            due(3, "BULL with a HERD of " + herd, x.farmIs(0, 6), 1 + byHerd[herd]);
        }
        int[] withoutHerd = {0, 20, 30, 50};
        for (int km : withoutHerd) {
            x.become(0, km);
            due(3, "the HERD doesn't matter to " + km, x.farmIs(0, 6), 1);
        }
    }

    private static void growthByHour() {
        // At each HOUR: SCHOOL, FEAST; m is 0.
        int[][] at = {
            {0, 1, 4}, {6, 1, 1}, {7, 1, 4}, {8, 2, 2}, {13, 2, 2}, {14, 2, 5}, {15, 1, 1}, {21, 1, 4}, {23, 1, 1},
            {24, 1, 1}, {31, 1, 1}, {32, 2, 2}, {35, 2, 5}, {38, 2, 2}, {39, 1, 1}, {9991, 1, 1}, {9992, 2, 2},
            {9996, 2, 5}, {9997, 2, 2}, {9998, 2, 2}, {9999, 1, 1},
        };
        ThirstPay x = farms(20, 50);
        for (int[] a : at) {
            x.hour(a[0]);
            due(3, "SCHOOL at " + a[0], x.farmIs(0, 6), a[1]);
            due(3, "FEAST at " + a[0], x.farmIs(1, 6), a[2]);
        }
        x.become(0, 29);
        x.become(1, 59);
        x.hour(14);
        due(3, "twice 4", x.farmIs(0, 6), 8);
        due(3, "twice 4 and 3, held", x.farmIs(1, 6), 9);
    }

    private static void growthIsHeld() {
        ThirstPay x = new ThirstPay();
        x.farm(49, 1, 30);
        due(3, "20 is held at 9", x.farmIs(0, 6), 9);
        x.become(0, 19);
        due(3, "11 is held at 9", x.farmIs(0, 6), 9);
        x.become(0, 16);
        due(3, "10 is held at 9", x.farmIs(0, 6), 9);
        x.become(0, 13);
        due(3, "9 is 9", x.farmIs(0, 6), 9);
        x.become(0, 49);
        due(17, "an HOUR", x.hours(1), 0);
        due(17, "9 more, not 20", x.farmIs(0, 4), 9);
    }

    private static void payIsCut() {
        // DRY, STEPS, HERD, and PAY of KINDS 0 to 6.
        int[][] paid = {
            {0, 1, 0, 1, 1, 0, 2, 6, 0, 0},
            {1, 1, 1, 2, 2, 1, 4, 7, 2, 0},
            {2, 1, 1, 3, 3, 1, 6, 8, 2, 0},
            {99, 40, 30, 139, 139, 69, 278, 144, 99, 0},
        };
        for (int[] p : paid) {
            ThirstPay x = new ThirstPay();
            x.farm(0, p[1], p[2]);
            x.parch(0, p[0]);
            for (int kind = 0; kind < 7; kind++) {
                x.become(0, 10 * kind + 9);
                due(3, "PAY of KIND " + kind + " with DRY " + p[0], x.farmIs(0, 7), p[3 + kind]);
            }
        }
    }

    private static void anHourHoldsDry() {
        // m, DRY, then DRY and PARCHED behind an HOUR; a HERMIT of m 0 doesn't grow.
        int[][] went = {{0, 98, 99, 0}, {0, 99, 99, 1}, {9, 95, 99, 0}, {9, 96, 99, 1}, {9, 99, 99, 1}, {60, 99, 99, 0}};
        for (int[] w : went) {
            ThirstPay x = farms(w[0]);
            x.parch(0, w[1]);
            due(17, "PARCHED by " + w[0] + " from " + w[1] + " on", x.hours(1), w[3]);
            due(17, "DRY of " + w[0] + " from " + w[1] + " on", x.farmIs(0, 4), w[2]);
        }
        ThirstPay x = dryFarms(99, 50, 99, 98);
        due(17, "each FARM is 1", x.hours(1), 2);
        due(17, "each HOUR is 1", x.hours(2), 2 + 3 + 3);
        due(17, "all HOURS of 72", farms(0).hours(72), 0);
    }

    private static void parchedIsHeld() {
        ThirstPay x = sevenDry(99);
        int parched = 0;
        for (int i = 0; i < 198; i++) {
            if (i == 100) {
                x.hour(0);
            }
            parched += 7 * 72;
            due(17, "PARCHED", x.hours(72), parched);
        }
        due(17, "PARCHED", x.hours(29), 99995);
        due(17, "held within an HOUR", x.hours(1), 99999);
        due(17, "held", x.hours(72), 99999);
        due(39, "held", x.count(3), 99999);
    }

    private static void waterIsHeld() {
        // POOL, WATER, WATER behind an HOUR.
        int[][] went = {{0, 0, 1}, {1, 0, 2}, {2, 0, 3}, {0, 998, 999}, {0, 999, 999}, {1, 997, 999}, {1, 998, 999},
            {1, 999, 999}, {2, 996, 999}, {2, 997, 999}, {2, 998, 999}, {2, 999, 999}};
        for (int[] w : went) {
            ThirstPay x = new ThirstPay();
            x.pool(w[0], w[1]);
            x.hours(1);
            due(17, "POOL " + w[0] + " from " + w[1] + " on", x.pool(w[0], 0), w[2]);
            for (int other = 0; other < 3; other++) {
                if (other != w[0]) {
                    due(17, "another POOL", x.pool(other, 0), other + 1);
                }
            }
        }
    }

    private static void hourEnds() {
        ThirstPay x = new ThirstPay();
        due(19, "to 9999", x.hour(9999), 0);
        due(19, "to 0", x.hour(0), 9999);
        x.hour(9927);
        due(17, "72 to 9999", x.hours(72), 0);
        due(39, "HOUR", x.count(2), 9999);
        x.hour(9998);
        due(17, "1 to 9999", x.hours(1), 0);
        due(39, "HOUR", x.count(2), 9999);
        x.hour(9928);
        due(17, "72 to 10000", x.hours(72), STATE);
        due(39, "HOUR", x.count(2), 9928);
    }

    private static void carryToTheBrim() {
        ThirstPay x = dryFarms(40, 60, 1);
        carriers(x, 100, 101);
        x.pool(0, 100);
        x.pool(1, 101);
        due(12, "101 by a BELLY of 100", x.carry(0, 7, 1), STATE);
        due(12, "101 from WATER of 100", x.carry(1, 7, 0), STATE);
        due(12, "100 by 100 from 100", x.carry(0, 3, 0), 102);
        due(12, "WATER", x.pool(0, 0), 0);
        x.parch(0, 40);
        x.parch(1, 60);
        due(12, "101 by 101 from 101", x.carry(1, 7, 1), 41 + 61 + 2);
        due(12, "WATER", x.pool(1, 0), 0);
        for (int i = 0; i < 3; i++) {
            due(12, "DRY", x.farmIs(i, 4), 0);
        }
        due(12, "EASED", x.farmIs(0, 5), 80);
        due(12, "EASED", x.farmIs(1, 5), 120);
        due(12, "EASED", x.farmIs(2, 5), 1);
        ThirstPay all = sevenDry(40);
        all.carrier(300);
        all.pool(2, 280);
        due(12, "a set of all seven", all.carry(0, 127, 2), 7 * 41);
        due(12, "WATER", all.pool(2, 0), 0);
    }

    private static void carryOfNoneDry() {
        ThirstPay x = farms(0, 40, 60);
        x.carrier(1);
        due(12, "nothing to an empty POOL", x.carry(0, 7, 0), 1 + 6);
        due(12, "EARNED", x.carrierIs(0, 1), 7);
        due(12, "EASED", x.farmIs(0, 5), 0);
        due(12, "WATER", x.pool(0, 0), 0);
    }

    private static void payIsAheadOfCarrying() {
        ThirstPay x = dryFarms(30, 20);
        x.carrier(300);
        x.pool(0, 999);
        text(x, 1, "d*d");
        due(12, "PAY as it is ahead", x.carry(0, 3, 0), 900 + 400);
        due(12, "PAY now", x.farmIs(0, 7), 0);
    }

    private static void earnedIsHeld() {
        ThirstPay x = farms(0, 0, 0, 0, 0, 0, 0);
        carriers(x, 300, 300);
        text(x, 1, "999");
        for (int i = 0; i < 14; i++) {
            due(12, "PAY", x.carry(0, 127, 0), 6993);
        }
        due(12, "EARNED", x.carrierIs(0, 1), 97902);
        due(12, "two more", x.carry(0, 3, 0), 1998);
        due(12, "EARNED", x.carrierIs(0, 1), 99900);
        text(x, 1, "99");
        due(12, "just 99999", x.carry(0, 1, 0), 99);
        due(12, "EARNED", x.carrierIs(0, 1), 99999);
        due(12, "PAY is told whole", x.carry(0, 127, 0), 693);
        due(12, "held", x.carrierIs(0, 1), 99999);
        due(12, "EARNED of another", x.carrierIs(1, 1), 0);
    }

    /**
     * It takes nearly all of the 512 calls: a FARM that grows by 9 is carried by draws from POOLS that are filled now
     * and then. PAY is DRY, so loose() tells what was carried; the seed and the turns are such that it is enough.
     */
    private static void easedIsHeld() {
        ThirstPay x = new ThirstPay();
        x.farm(49, 1, 30);
        x.carrier(300);
        text(x, 1, "d");
        x.seed(271);
        for (int i = 0; i < 3; i++) {
            x.pool(i, 999);
        }
        int carried = 0;
        for (int i = 0; i < 465; i++) {
            if (i % 20 == 19) {
                x.pool(0, 999);
            }
            if (i % 40 == 39) {
                x.pool(1, 999);
            }
            if (i == 400) {
                x.hour(0);
                due(18, "EASED", x.farmIs(0, 5), carried);
            }
            carried += x.loose(24);
        }
        due(18, "more than 99999 were carried", carried, 100386);
        due(18, "EASED is held", x.farmIs(0, 5), 99999);
        due(18, "EARNED is held", x.carrierIs(0, 1), 99999);
    }

    // ---- by draws an hour

    private static int step(int z) {
        return z * 1103515245 + 12345;
    }

    /** The least z from which a draw's rest by n is so, and the two that follow are as wanted by m and by 3. */
    private static int seedFor(int carrierRest, int carriers, int setRest, int sets, int poolRest) {
        for (int z = 0; z < 100000; z++) {
            int one = step(z);
            int two = step(one);
            int three = step(two);
            if ((one >>> 8) % carriers == carrierRest && (two >>> 8) % sets == setRest && (three >>> 8) % 3 == poolRest) {
                return z;
            }
        }
        return -1;
    }

    private static void drawsWithoutAny() {
        ThirstPay x = new ThirstPay();
        due(18, "neither", x.loose(24), 0);
        due(18, "no draws", x.count(7), 1);
        due(18, "HOURS", x.count(2), 24);
        due(18, "WATER", x.pool(2, 0), 72);
        x = sevenDry(1);
        due(18, "no CARRIERS", x.loose(1), 0);
        due(18, "no draws", x.count(7), 1);
        due(18, "DRY", x.farmIs(6, 4), 2);
        x = new ThirstPay();
        carriers(x, 1, 2, 3, 4);
        due(18, "no FARMS", x.loose(1), 0);
        due(18, "no draws", x.count(7), 1);
        due(18, "HOUR", x.count(2), 1);
    }

    private static void drawsOfTheOnlyOnes() {
        ThirstPay x = dryFarms(10);
        x.carrier(10);
        x.pool(1, 10);
        int z = seedFor(0, 1, 1, 2, 1);
        x.seed(z);
        due(18, "PAY", x.loose(1), 11);
        due(18, "three draws", x.count(7), step(step(step(z))));
        due(18, "first carried, then an HOUR", x.farmIs(0, 4), 1);
        due(18, "WATER of 0 and 2", x.pool(1, 0), 2);
        due(18, "EASED", x.farmIs(0, 5), 10);
        x = sevenDry(3);
        carriers(x, 1, 2, 3, 21);
        x.pool(2, 21);
        x.seed(seedFor(3, 4, 127, 128, 2));
        due(18, "the last of each", x.loose(1), 28);
        due(18, "EARNED", x.carrierIs(3, 1), 28);
        due(18, "WATER", x.pool(2, 0), 3);
        x = sevenDry(3);
        carriers(x, 3, 2, 3, 21);
        x.pool(0, 3);
        x.seed(seedFor(0, 4, 1, 128, 0));
        due(18, "the first of each", x.loose(1), 4);
        due(18, "EARNED", x.carrierIs(0, 1), 4);
        due(18, "WATER", x.pool(0, 0), 1);
    }

    private static void drawsOfAnEmptySet() {
        ThirstPay x = dryFarms(10, 20);
        x.carrier(300);
        x.pool(0, 999);
        int z = seedFor(0, 1, 0, 4, 0);
        x.seed(z);
        due(18, "there is none in it", x.loose(1), 0);
        due(18, "three draws", x.count(7), step(step(step(z))));
        due(18, "DRY", x.farmIs(0, 4), 11);
        due(18, "EARNED", x.carrierIs(0, 1), 0);
        // None of them DRY, nor WATER there: there are FARMS in the set, so it is carried.
        x = farms(0, 0);
        x.carrier(1);
        x.seed(seedFor(0, 1, 3, 4, 0));
        due(18, "two that aren't DRY", x.loose(1), 2);
        due(18, "EARNED", x.carrierIs(0, 1), 2);
    }

    private static void drawsNotLawful() {
        ThirstPay x = dryFarms(11);
        x.carrier(10);
        x.pool(0, 999);
        int z = seedFor(0, 1, 1, 2, 0);
        x.seed(z);
        due(18, "above the BELLY", x.loose(1), 0);
        due(18, "three draws", x.count(7), step(step(step(z))));
        due(18, "DRY", x.farmIs(0, 4), 12);
        due(18, "no ERROR", x.told(3), 0);
        x = dryFarms(11);
        x.carrier(300);
        x.pool(0, 10);
        x.seed(z);
        due(18, "above WATER", x.loose(1), 0);
        due(18, "DRY", x.farmIs(0, 4), 12);
        due(18, "WATER", x.pool(0, 0), 11);
        due(18, "no ERROR", x.told(3), 0);
    }

    private static void looseIsOneHourAfterAnother() {
        for (int seed = -3; seed < 4; seed++) {
            ThirstPay x = sevenDry(5);
            ThirstPay y = sevenDry(5);
            carriers(x, 30, 60, 300);
            carriers(y, 30, 60, 300);
            x.seed(seed * 123456789);
            y.seed(seed * 123456789);
            int pay = 0;
            for (int i = 0; i < 24; i++) {
                pay += y.loose(1);
            }
            due(18, "24 at once", x.loose(24), pay);
            due(18, "z", x.count(7), y.count(7));
            for (int i = 0; i < 7; i++) {
                due(18, "DRY", x.farmIs(i, 4), y.farmIs(i, 4));
                due(18, "EASED", x.farmIs(i, 5), y.farmIs(i, 5));
            }
            due(18, "all was EARNED", x.carrierIs(0, 1) + x.carrierIs(1, 1) + x.carrierIs(2, 1), pay);
        }
    }

    private static void looseEnds() {
        ThirstPay x = new ThirstPay();
        x.hour(9975);
        due(18, "24 to 9999", x.loose(24), 0);
        due(39, "HOUR", x.count(2), 9999);
        x.hour(9976);
        due(18, "24 to 10000", x.loose(24), STATE);
        due(18, "23 to 9999", x.loose(23), 0);
        due(39, "HOUR", x.count(2), 9999);
    }

    // ---- the terms, 2

    private static void dueText(ThirstPay x, int use, String text, int fault) {
        feedWords(x, text);
        due(14, "text " + use + " of " + text, x.text(use), fault < 0 ? 1 : -10 - fault);
    }

    private static void numbersOfDigits() {
        ThirstPay x = new ThirstPay();
        String[] texts = {"7", "77", "777", "0777", "0000", "0009"};
        int[] are = {7, 77, 777, 777, 0, 9};
        for (int i = 0; i < texts.length; i++) {
            dueText(x, 1, texts[i], -1);
            due(14, texts[i], x.law(1, 0, 0, 0), are[i]);
        }
        dueText(x, 1, "9999/100", -1);
        due(14, "9999/100", x.law(1, 0, 0, 0), 99);
        dueText(x, 1, "00000", 4);
        dueText(x, 1, "12345", 4);
        dueText(x, 1, "(12345)", 5);
        dueText(x, 1, "!12345", 5);
        dueText(x, 1, "1+12345+", 6);
        dueText(x, 1, "p1", 1);
        dueText(x, 1, "1p", 1);
    }

    /** Each byte as the first of a TEXT. */
    private static void firstByteOfAText() {
        for (int use = 0; use < 2; use++) {
            String alone = use == 0 ? "0123456789gdh" : "0123456789pds";
            ThirstPay x = new ThirstPay();
            for (int b = 0; b < 256; b++) {
                if (b == 128) {
                    x = new ThirstPay();
                }
                int due = alone.indexOf(b) >= 0 ? 1 : b == '!' || b == '(' ? -11 : -10;
                x.feed(b, 1);
                due(14, "USE " + use + ", byte " + b, x.text(use), due);
            }
        }
    }

    private static final String JOIN = "|&+-*/%";
    private static final String COMPARE = "<=>";
    private static final String DIGIT = "0123456789";
    private static final String OPERAND = DIGIT + "gdh";
    // A beginning; the bytes that end it as a TEXT; the bytes that go on, but end it too early.
    private static final String[][] BEGINNINGS = {
        {"g", "", JOIN + COMPARE},
        {"1", DIGIT, JOIN + COMPARE},
        {"123", DIGIT, JOIN + COMPARE},
        {"1234", "", JOIN + COMPARE},
        {"(", "", OPERAND + "!("},
        {"(g", ")", JOIN + COMPARE},
        {"(g)", "", JOIN + COMPARE},
        {"!", OPERAND, "!("},
        {"!g", "", JOIN + COMPARE},
        {"g+", OPERAND, "!("},
        {"g<", OPERAND, "!("},
        {"g<g", "", JOIN},
        {"g<g+1", DIGIT, JOIN},
        {"g<g&d", "", JOIN + COMPARE},
        {"g=(1<2", ")", DIGIT + JOIN},
        {"g=(1<2)", "", JOIN},
        {"!!!!!", OPERAND, ""},
        {"(((((", "", OPERAND},
        {"(((((g", "", ")" + JOIN + COMPARE},
        {"!!!!(", "", OPERAND},
        {"!!!!(g)*", OPERAND, "!("},
    };

    /** Each byte behind a beginning: with those that neither end it well nor go on, there is a FAULT at their place. */
    private static void nextByteOfAText() {
        for (String[] beginning : BEGINNINGS) {
            int place = beginning[0].length();
            ThirstPay x = new ThirstPay();
            for (int b = 0; b < 256; b++) {
                if (b % 128 == 0) {
                    x = new ThirstPay();
                }
                feedWords(x, beginning[0]);
                x.feed(b, 1);
                int early = beginning[2].indexOf(b) >= 0 ? -11 - place : -10 - place;
                due(14, beginning[0] + " and byte " + b, x.text(0), beginning[1].indexOf(b) >= 0 ? 1 : early);
            }
        }
    }

    private static void openAtOnce() {
        ThirstPay x = new ThirstPay();
        dueText(x, 0, "!!!!!g", -1);
        dueText(x, 0, "!!!!!!g", 5);
        dueText(x, 0, "(((((g)))))", -1);
        dueText(x, 0, "((((((g))))))", 5);
        dueText(x, 0, "!(!(!g))", -1);
        dueText(x, 0, "!(!(!(g)))", 5);
        dueText(x, 0, "!(!(!!g))", 5);
        dueText(x, 0, "!!!!!g|!!!!!g|(((((g)))))", -1);
        dueText(x, 0, "((((!g|!d))))", -1);
        dueText(x, 0, "((((!g|(d)))))", -1);
        dueText(x, 0, "((((!g|(d|!h)))))", 10);
        dueText(x, 0, "((((!(g)))))", 5);
        dueText(x, 0, "!!!!(g)*!!!!(!g)", 13);
    }

    private static void endsTooEarly() {
        String[] early = {"(", "!", "((", "(g", "g+", "g<", "g<d&", "(g)*", "((g)", "!(", "g|(d", "1%", "(((((", "!!!!!"};
        ThirstPay x = new ThirstPay();
        for (String text : early) {
            dueText(x, 0, text, text.length());
        }
    }

    private static void namesByUse() {
        ThirstPay x = new ThirstPay();
        String names = "gdhps";
        for (int i = 0; i < names.length(); i++) {
            String name = names.substring(i, i + 1);
            dueText(x, 0, name, i < 3 ? -1 : 0);
            dueText(x, 1, name, i == 1 || i > 2 ? -1 : 0);
            dueText(x, 0, "1+" + name, i < 3 ? -1 : 2);
            dueText(x, 1, "1+" + name, i == 1 || i > 2 ? -1 : 2);
        }
        dueText(x, 0, "g*100+d*10+h", -1);
        dueText(x, 1, "p*100+d*10+s", -1);
        due(16, "NAMES of PAY in order", x.law(1, 4, 5, 6), 456);
        dueText(x, 0, "(g*100+d*10+h)-(456-7)", -1);
        due(16, "NAMES of GROWTH in order", x.law(0, 4, 5, 6), 7);
    }

    private static void sixtyBytes() {
        StringBuilder sum = new StringBuilder("!1");
        for (int i = 0; i < 29; i++) {
            sum.append("+1");
        }
        ThirstPay x = new ThirstPay();
        feedWords(x, sum.toString());
        due(13, "60 bytes", x.count(4), 60);
        due(13, "none goes on", x.feed('+', 1), FULL);
        due(14, "a TEXT of 60 bytes", x.text(1), 1);
        due(14, "its worth", x.law(1, 0, 0, 0), 29);
        due(14, "THE TAPE is empty", x.count(4), 0);
        x.image();
        x.untell(1);
        x.restore();
        due(36, "its worth from an IMAGE", x.law(1, 0, 0, 0), 29);
        StringBuilder nested = new StringBuilder("1");
        for (int i = 0; i < 12; i++) {
            nested.append("+!(p)");
        }
        dueText(x, 1, nested.substring(0, 60), 60);
        dueText(x, 1, nested.substring(0, 56), -1);
        due(14, "1 and 11 times 1", x.law(1, 0, 0, 0), 12);
        due(14, "1 and 11 times 0", x.law(1, 7, 0, 0), 1);
        StringBuilder digits = new StringBuilder();
        for (int i = 0; i < 60; i++) {
            digits.append('1');
        }
        dueText(x, 1, digits.toString(), 4);
        digits.setCharAt(4, '+');
        dueText(x, 1, digits.toString(), 9);
        // The last byte alone is wrong.
        sum.setCharAt(59, ')');
        dueText(x, 1, sum.toString(), 59);
        sum.setCharAt(59, '+');
        dueText(x, 1, sum.toString(), 59);
    }

    private static void dueLaw(ThirstPay x, String text, int a, int b, int c, int want) {
        feedWords(x, text);
        due(14, "text of " + text, x.text(1), 1);
        due(16, text + " of " + a + ", " + b + ", " + c, x.law(1, a, b, c), want);
    }

    private static void intsWrap() {
        ThirstPay x = new ThirstPay();
        dueLaw(x, "p+d", MAX, MIN, 0, 0);
        dueLaw(x, "p+1", MAX, 0, 0, 0);
        dueLaw(x, "p+d+9", MAX, MAX, 0, 7);
        dueLaw(x, "p-1", MIN, 0, 0, 999);
        dueLaw(x, "p-d-s", MIN, MAX, 0, 1);
        dueLaw(x, "p*d", 65536, 65536, 0, 0);
        dueLaw(x, "p*d+5", MIN, MIN, 0, 5);
        dueLaw(x, "p*p", MAX, 0, 0, 1);
        dueLaw(x, "p/d", MIN, -1, 0, 0);
        dueLaw(x, "p/d-1", MIN, -1, 0, 999);
        dueLaw(x, "p%d", MIN, -1, 0, 0);
        dueLaw(x, "p%d+s", -7, 4, 5, 2);
        dueLaw(x, "p%d+s", -7, -4, 5, 2);
        dueLaw(x, "p%d", 7, -4, 0, 3);
        dueLaw(x, "p/d+s", -7, 4, 5, 4);
        dueLaw(x, "p/d+s", 7, -4, 5, 4);
        dueLaw(x, "p/d", -7, -4, 0, 1);
        dueLaw(x, "9999*9999*9999*9999/s", 0, 0, 10000000, 9999 * 9999 * 9999 * 9999 / 10000000);
        dueLaw(x, "p<d", MIN, MAX, 0, 1);
        dueLaw(x, "p>d", MIN, MAX, 0, 0);
        dueLaw(x, "p-d<0", MIN, 1, 0, 0);
    }

    private static void byNothing() {
        ThirstPay x = new ThirstPay();
        dueLaw(x, "p/d", 9, 0, 0, 0);
        dueLaw(x, "p%d", 9, 0, 0, 0);
        dueLaw(x, "0/0", 9, 0, 0, 0);
        dueLaw(x, "0%0", 9, 0, 0, 0);
        dueLaw(x, "p/d+3", MIN, 0, 0, 3);
        dueLaw(x, "p/(d-d)*s+4", 9, 8, 7, 4);
        dueLaw(x, "1|p/d", 9, 0, 0, 1);
        dueLaw(x, "0&p%d", 9, 0, 0, 0);
        dueLaw(x, "p|d", -1, 0, 0, 1);
        dueLaw(x, "p|d", 0, MIN, 0, 1);
        dueLaw(x, "p&d", -1, MIN, 0, 1);
        dueLaw(x, "p&d", 6, 1, 0, 1);
        dueLaw(x, "!p", -1, 0, 0, 0);
        dueLaw(x, "!p", MIN, 0, 0, 0);
        dueLaw(x, "!!p", -9, 0, 0, 1);
        dueLaw(x, "!p=d", 0, 1, 0, 1);
        dueLaw(x, "2=1|1", 0, 0, 0, 1);
        dueLaw(x, "1|1=2", 0, 0, 0, 1);
        dueLaw(x, "(1|1)=2", 0, 0, 0, 0);
    }

    private static void usesAreHeld() {
        ThirstPay x = new ThirstPay();
        int[] given = {MIN, -1, 0, 1, 8, 9, 10, 998, 999, 1000, MAX};
        int[] growth = {0, 0, 0, 1, 8, 9, 9, 9, 9, 9, 9};
        int[] pay = {0, 0, 0, 1, 8, 9, 10, 998, 999, 999, 999};
        for (int told = 0; told < 2; told++) {
            for (int i = 0; i < given.length; i++) {
                due(16, "GROWTH of " + given[i], x.law(0, given[i], 5, 5), growth[i]);
                due(16, "PAY of " + given[i], x.law(1, given[i], 5, 5), pay[i]);
            }
            dueText(x, 0, "g", -1);
            dueText(x, 1, "p", -1);
        }
        x.farm(0, 1, 0);
        dueText(x, 0, "0-1", -1);
        dueText(x, 1, "0-1", -1);
        due(3, "GROWTH of -1", x.farmIs(0, 6), 0);
        due(3, "PAY of -1", x.farmIs(0, 7), 0);
        dueText(x, 0, "10", -1);
        dueText(x, 1, "1000", -1);
        due(3, "GROWTH of 10", x.farmIs(0, 6), 9);
        due(3, "PAY of 1000", x.farmIs(0, 7), 999);
        due(15, "none any more", x.untell(0), 1);
        due(15, "none any more", x.untell(1), 1);
        due(3, "GROWTH", x.farmIs(0, 6), 1);
        due(3, "PAY", x.farmIs(0, 7), 1);
    }

    private static void feedByBytes() {
        ThirstPay x = new ThirstPay();
        int[] sums = {1, 3, 6, 10, 15, 21, 28, 36};
        for (int n = 1; n <= 8; n++) {
            due(13, n + " bytes", x.feed(0x2B312B312B312B31L, n), sums[n - 1]);
        }
        due(14, "11+1+11+ and so on, with + at the end", x.text(1), -46);
        due(13, "eight bytes, the lowest first", x.feed(0x392B382B372B3631L, 8), 8);
        due(14, "16+7+8+9", x.text(1), 1);
        due(14, "16+7+8+9", x.law(1, 0, 0, 0), 40);
        due(13, "the highest byte is of use, too", x.feed(0xE931313131313131L, 8), 8);
        due(14, "1111 and a 1", x.text(1), -14);
        due(13, "a byte above 127", x.feed(-1L, 1), 1);
        due(14, "none goes on with it", x.text(1), -10);
        for (int i = 1; i <= 7; i++) {
            due(13, "56", x.feed(0, 8), 8 * i);
        }
        for (int n = 8; n > 4; n--) {
            due(13, "above 60", x.feed(0, n), FULL);
        }
        due(13, "just 60", x.feed(0, 4), 60);
        due(13, "above 60", x.feed(0, 1), FULL);
    }

    private static void textOfAnEmptyTape() {
        ThirstPay x = new ThirstPay();
        due(14, "no byte", x.text(0), -10);
        due(14, "no byte", x.text(1), -10);
        due(15, "still none", x.untell(0), 0);
        dueText(x, 0, "3", -1);
        due(14, "no byte again", x.text(0), -10);
        due(14, "the one ahead stays", x.law(0, 0, 0, 0), 3);
        dueText(x, 0, "4)", 1);
        due(14, "the one ahead stays", x.law(0, 0, 0, 0), 3);
        due(39, "THE TAPE is empty, too", x.count(4), 0);
        due(15, "there was one", x.untell(0), 1);
    }

    // ---- the terms, 3

    private static void thenEnds() {
        ThirstPay x = farms(0, 60, 9);
        due(21, "now", x.then(0, 0), 0);
        due(21, "72 on", x.then(0, 72), 72);
        due(21, "a HERMIT", x.then(1, 72), 0);
        due(21, "24 on, below 99", x.then(2, 24), 96);
        due(21, "25 on, held", x.then(2, 25), 99);
        x.parch(0, 27);
        due(21, "just 99", x.then(0, 72), 99);
        x.parch(0, 28);
        due(21, "held", x.then(0, 72), 99);
        due(21, "only thought", x.count(3), 0);
        x = sevenDry(1);
        due(21, "the seventh", x.then(6, 3), 4);
    }

    private static void thenBeyond9999() {
        ThirstPay x = farms(20);
        x.hour(9999);
        due(21, "to 10016, the first of a day that is 8", x.then(0, 17), 17);
        due(21, "10016", x.then(0, 18), 19);
        due(21, "to 10023", x.then(0, 25), 17 + 7 * 2 + 1);
        dueText(x, 0, "h=0", -1);
        due(21, "10007 is 23", x.then(0, 9), 0);
        due(21, "10008 is 0", x.then(0, 10), 1);
        due(22, "10008 is 0", x.first(0, 1), 10);
        sheet(x, 0, 8, 2);
        due(27, "10032 is 0", x.fits(0), 34);
        due(39, "HOUR", x.count(2), 9999);
    }

    private static void firstEnds() {
        ThirstPay x = dryFarms(5, 7, 7);
        due(22, "none is more DRY than 7 yet", x.first(7, 1), 1);
        due(22, "the least of two", x.first(7, 0), 1);
        due(22, "more than 6 now", x.first(6, 1), 0);
        due(22, "more than 98", x.first(98, 1), NONE);
        x.parch(2, 99);
        due(22, "99 is more than 98", x.first(98, 1), 0);
        due(22, "99 is more than 98", x.first(98, 0), 2);
        due(22, "99 is not more than 99", x.first(99, 0), NONE);
        x = dryFarms(0, 1);
        due(22, "behind 72", x.first(72, 1), 72);
        due(22, "behind 72", x.first(72, 0), 1);
        due(22, "not by 72", x.first(73, 1), NONE);
        due(22, "not by 72", x.first(73, 0), NONE);
        x = sevenDry(0);
        x.parch(6, 1);
        due(22, "the seventh", x.first(9, 0), 6);
        due(22, "the seventh", x.first(9, 1), 9);
    }

    private static void roundEnds() {
        ThirstPay x = dryFarms(20, 21, 40);
        carriers(x, 19, 20, 41, 300);
        due(23, "none goes in", x.round(0, 0), 0);
        due(23, "none goes in", x.round(0, 1), 0);
        due(23, "just the BELLY", x.round(1, 0), 1);
        due(23, "just the BELLY", x.round(2, 0), 3);
        due(23, "all", x.round(3, 0), 7);
        x.parch(1, 20);
        x.pool(0, 0);
        due(23, "WATER doesn't matter", x.round(3, 1), 83);
        x.become(0, 60);
        due(23, "what pays nothing stays", x.round(3, 0), 6);
        dueText(x, 1, "0", -1);
        due(23, "none pays", x.round(3, 0), 0);
        due(23, "none pays", x.round(3, 1), 0);
        dueText(x, 1, "5", -1);
        due(23, "of several the least", x.round(1, 0), 1);
        due(23, "all, though one is a HERMIT", x.round(3, 0), 7);
        x = sevenDry(43);
        carriers(x, 300, 301 - 43);
        due(23, "six of seven", x.round(0, 0), 63);
        due(23, "six of seven", x.round(1, 0), 63);
        x.parch(6, 42);
        due(23, "just all", x.round(0, 0), 127);
        due(23, "PAY of all", x.round(0, 1), 300 + 7);
    }

    private static void dueFewest(ThirstPay x, int above, int... want) {
        for (int i = 0; i < want.length; i++) {
            due(24, "fewest(" + above + ", " + (i - 1) + ")", x.fewest(above, i - 1), want[i]);
        }
    }

    private static void fewestEnds() {
        ThirstPay x = new ThirstPay();
        dueFewest(x, 0, 0, -1, -1, -1, -1, -1, -1, -1);
        x = dryFarms(50, 51);
        dueFewest(x, 51, 0, -1, -1, -1, -1, -1, -1, -1);
        due(24, "one goes, and no CARRIER", x.fewest(50, -1), NONE);
        x.carrier(50);
        due(24, "51 in 50", x.fewest(50, -1), NONE);
        x.carrier(51);
        dueFewest(x, 50, 1, -1, 1, -1, -1, -1, -1, -1);
        dueFewest(x, 49, 2, 0, 1, -1, -1, -1, -1, -1);
        x.carrier(101);
        dueFewest(x, 49, 1, 2, 2, -1, -1, -1, -1, -1);
        x.parch(0, 0);
        dueFewest(x, 0, 1, -1, 1, -1, -1, -1, -1, -1);
        x = dryFarms(99, 99, 99, 99, 1);
        carriers(x, 99, 99, 99, 100);
        dueFewest(x, 0, 4, 0, 1, 2, 3, 3, -1, -1);
        dueFewest(x, 1, 4, 0, 1, 2, 3, -1, -1, -1);
        due(24, "99 is no more than 99", x.fewest(99, -1), 0);
        x.parch(4, 2);
        due(24, "101 in 100", x.fewest(1, -1), NONE);
        x = dryFarms(30, 20, 10);
        carriers(x, 30, 30, 60);
        dueFewest(x, 0, 1, 2, 2, 2, -1, -1, -1, -1);
        x = dryFarms(20, 20, 20);
        carriers(x, 20, 40, 40);
        // 0 1 1, 0 2 2, 1 0 1, .. are ways by two; the first by FARMS begins with 0.
        dueFewest(x, 0, 2, 0, 1, 1, -1, -1, -1, -1);
    }

    private static void fewestForgetsTheLastWay() {
        ThirstPay x = new ThirstPay();
        x.image();
        x.farm(0, 1, 0);
        x.parch(0, 9);
        x.carrier(9);
        due(24, "goes with 0", x.fewest(0, 0), 0);
        x.restore();
        due(24, "there is none such", x.fewest(0, 0), -1);
        x = dryFarms(9, 9);
        x.carrier(18);
        due(24, "goes with 0", x.fewest(0, 1), 0);
        x.parch(1, 0);
        due(24, "none goes for it", x.fewest(0, 1), -1);
        x.parch(1, 10);
        due(24, "too much", x.fewest(0, 1), NONE);
        x.carrier(10);
        due(24, "goes with 1", x.fewest(0, 1), 1);
    }

    private static void dueOdds(ThirstPay x, int carrier, int above, int below) {
        due(25, "above the line", x.odds(carrier, 0), above);
        due(25, "below the line", x.odds(carrier, 1), below);
    }

    private static void oddsEnds() {
        ThirstPay x = dryFarms(50);
        carriers(x, 49, 50);
        dueOdds(x, 0, 0, 1);
        dueOdds(x, 1, 1, 1);
        x = dryFarms(10, 20);
        carriers(x, 10, 29, 30, 9);
        dueOdds(x, 0, 1, 3);
        dueOdds(x, 1, 2, 3);
        dueOdds(x, 2, 1, 1);
        dueOdds(x, 3, 0, 1);
        x = sevenDry(50);
        carriers(x, 49, 50, 149, 300);
        dueOdds(x, 0, 0, 1);
        dueOdds(x, 1, 7, 127);
        dueOdds(x, 2, 28, 127);
        dueOdds(x, 3, 126, 127);
        x = dryFarms(1, 1, 1, 1, 1, 90);
        carriers(x, 5, 90);
        // 31 of 63 and 32 of 63; then 21 of 63.
        dueOdds(x, 0, 31, 63);
        dueOdds(x, 1, 32, 63);
        x = dryFarms(0, 0, 90, 91, 92, 93);
        carriers(x, 2, 90, 91, 180);
        dueOdds(x, 0, 1, 21);
        dueOdds(x, 1, 1, 9);
        dueOdds(x, 2, 11, 63);
        dueOdds(x, 3, 19, 63);
    }

    private static void whoseEnds() {
        ThirstPay x = sevenDry(0);
        due(26, "all sets", x.whose(0, 0), 127);
        due(26, "the least", x.whose(0, 1), 1);
        due(26, "1 of none", x.whose(1, 0), 0);
        x = sevenDry(99);
        due(26, "all seven", x.whose(693, 0), 1);
        due(26, "all seven", x.whose(693, 1), 127);
        due(26, "one each", x.whose(99, 0), 7);
        due(26, "three each", x.whose(297, 0), 35);
        due(26, "the first three", x.whose(297, 1), 7);
        due(26, "none", x.whose(694, 0), 0);
        due(26, "none: the empty set is none", x.whose(0, 0), 0);
        due(26, "none: the empty set is none", x.whose(0, 1), NONE);
        due(26, "none", x.whose(MAX, 0), 0);
        x.parch(6, 98);
        due(26, "the last one alone", x.whose(98, 1), 64);
    }

    private static void fitsEnds() {
        ThirstPay x = farms(0, 60);
        sheet(x, 0, 8, 72, 0);
        due(27, "behind 72", x.fits(0), 72);
        sheet(x, 0, 8, 73, 0);
        due(27, "not by 72", x.fits(0), NONE);
        sheet(x, 0, 8, 72, 1);
        due(27, "the second never", x.fits(0), NONE);
        sheet(x, 0, 8, 1, 0);
        due(27, "it was so at first alone", x.fits(0), 1);
        x.parch(0, 2);
        due(27, "it was so, and won't be", x.fits(0), NONE);
        sheet(x, 0, 8, -1);
        due(27, "below 0", x.fits(0), NONE);
        sheet(x, 0, 32, 100);
        due(27, "above 99", x.fits(0), NONE);
        x.parch(0, 99);
        sheet(x, 0, 32, 99);
        due(27, "now", x.fits(0), 0);
        sheet(x, 0, 32, 99, 0, 0);
        due(27, "there is no third FARM", x.fits(0), NONE);
        x.sheet(0, 16, 0);
        due(27, "it tells of none", x.fits(0), 0);
        ThirstPay none = new ThirstPay();
        none.sheet(3, 8, 0);
        due(27, "no FARMS, no numbers", none.fits(3), 0);
        none.sheet(3, 8, 1);
        due(27, "no FARMS, one number", none.fits(3), NONE);
        x = sevenDry(3);
        sheet(x, 2, 32, 9, 9, 9, 9, 9, 9, 9);
        due(27, "all seven", x.fits(2), 6);
        sheet(x, 2, 32, 9, 9, 9, 9, 9, 9, 10);
        due(27, "but the seventh", x.fits(2), NONE);
    }

    // ---- the terms, 4

    private static void voicesWrap() {
        // k is 1 to 6 by KIND, m is 0.
        ThirstPay x = farms(60, 0, 10, 20, 30, 40, 50);
        due(28, "gulps of a FARM", x.voice(1, 0, MAX), MIN);
        due(28, "sips of a FARM", x.voice(1, 1, MAX), 0);
        due(28, "sips of a FARM", x.voice(1, 1, 0x3FFFFFFF), MIN);
        due(28, "parts of a FARM: MIN by -1", x.voice(1, 3, MIN), MIN);
        due(28, "parts of a FARM: MAX by -1", x.voice(1, 3, MAX), -MAX);
        due(28, "gulps of a DAIRY", x.voice(2, 0, MIN), MIN + 2 - 4);
        due(28, "parts of a DAIRY", x.voice(2, 3, MIN), 0x40000000 + 2 * (1 + 2 - 4));
        due(28, "parts of a DAIRY are cut", x.voice(2, 3, 3), -1 - 2);
        due(28, "parts of a DAIRY are cut", x.voice(2, 3, -3), 1 - 2);
        due(28, "sips of a SCHOOL: 0 less MIN", x.voice(3, 1, 0x3FFFFFFD), MIN);
        due(28, "sighs of an INN", x.voice(4, 2, MIN), (MIN / 2 + 4) * 2);
        due(28, "sighs of an INN are cut", x.voice(4, 2, -1), 8);
        due(28, "sighs of an INN are cut", x.voice(4, 2, 1), 8);
        due(28, "gulps of a BULL", x.voice(5, 0, MAX), (MAX + 5 - 4) * 3);
        due(28, "sighs of a BULL", x.voice(5, 2, 0), (5 - 4) * 3 * 2 ^ 5);
        due(28, "sighs of a BULL", x.voice(5, 2, -9), (-9 + 5 - 4) * 3 * 2 ^ 5);
        due(28, "sips of a FEAST", x.voice(6, 1, MAX), 0 - (MIN + 6) * 2);
        due(28, "gulps of a HERMIT", x.voice(0, 0, MIN), 9);
        due(28, "sips of a HERMIT", x.voice(0, 1, MAX), 18);
        x.become(0, 69);
        due(28, "sips of a HERMIT", x.voice(0, 1, MAX), 27);
        due(28, "sighs of a HERMIT", x.voice(0, 2, MAX), 18);
        due(28, "parts of a HERMIT", x.voice(0, 3, 89), 9);
        x.become(1, 9);
        due(28, "sighs of a FARM", x.voice(1, 2, 0x3FFFFFFF), MIN - 9);
        due(28, "parts of m above k", x.voice(1, 3, -15), -1);
        due(28, "any number, an ERROR's too", x.voice(1, 0, PARTED - 1), PARTED);
        due(40, "which is none", x.told(6), 0);
    }

    private static void traceOfTheLatest() {
        ThirstPay x = farms(0, 40);
        due(39, "none at first", x.count(6), 0);
        due(29, "none at first", x.body(0), NONE);
        x.voice(1, 3, 9);
        int[] bull = {21, 13, 11, 50, 20, 10};
        due(39, "six", x.count(6), 6);
        for (int i = 0; i < 6; i++) {
            due(29, "as they began", x.body(i), bull[i]);
        }
        due(29, "no seventh", x.body(6), NONE);
        x.voice(0, 0, 9);
        due(39, "of the latest alone", x.count(6), 1);
        due(29, "of the latest alone", x.body(0), 10);
        due(29, "of the latest alone", x.body(1), NONE);
        due(29, "none ahead", x.body(-1), NONE);
        due(29, "none ahead", x.body(MIN), NONE);
        due(29, "none behind", x.body(MAX), NONE);
        due(29, "none behind", x.body(29), NONE);
        due(29, "none behind", x.body(30), NONE);
    }

    private static void sheetSizes() {
        ThirstPay x = new ThirstPay();
        int[] widths = {8, 16, 32};
        for (int w : widths) {
            due(30, "no numbers", x.sheet(1, w, 0), 1);
            due(31, "no numbers", x.put(1, 0, 1), BEYOND);
            due(30, "24 numbers", x.sheet(1, w, 24), 1);
            due(31, "the first", x.put(1, 0, 1), 1);
            due(31, "the last", x.put(1, 23, 1), 1);
            due(31, "no more", x.put(1, 24, 1), BEYOND);
            due(30, "1 number", x.sheet(1, w, 1), 1);
            due(31, "the first", x.put(1, 0, 1), 1);
            due(31, "no more", x.put(1, 1, 1), BEYOND);
        }
        int[] any = {MIN, -1, 0, 24, 25, MAX};
        for (int n : any) {
            x.sheet(1, 8, 3);
            due(30, "missing, n " + n, x.sheet(1, 0, n), 1);
            due(31, "missing", x.put(1, 0, 1), NONE);
        }
        due(30, "missing already", x.sheet(1, 0, 0), 1);
    }

    /** A number is right if judge() finds it to be PAY, which is p as told by a TEXT. */
    private static void dueReads(ThirstPay x, int bits, int put, int pay, int right) {
        sheet(x, 0, bits, put);
        feedWords(x, Integer.toString(pay));
        x.text(1);
        due(31, put + " in " + bits + " bits is " + pay, x.judge(0), right);
    }

    private static void sheetBits() {
        ThirstPay x = farms(0);
        dueReads(x, 8, 127, 127, 1);
        dueReads(x, 8, 128, 128, 0);
        dueReads(x, 8, 255, 255, 0);
        dueReads(x, 8, 256, 0, 1);
        dueReads(x, 8, 256 + 127, 127, 1);
        dueReads(x, 8, -129, 127, 1);
        dueReads(x, 8, MIN, 0, 1);
        dueReads(x, 8, MAX, 0, 0);
        dueReads(x, 8, 999, 999, 0);
        dueReads(x, 16, 128, 128, 1);
        dueReads(x, 16, 999, 999, 1);
        dueReads(x, 16, 65536, 0, 1);
        dueReads(x, 16, 65536 + 999, 999, 1);
        dueReads(x, 16, -65536 + 999, 999, 1);
        dueReads(x, 16, 32768, 0, 0);
        dueReads(x, 16, MIN + 5, 5, 1);
        dueReads(x, 32, 999, 999, 1);
        dueReads(x, 32, 65536 + 999, 999, 0);
        dueReads(x, 32, 256, 0, 0);
        dueReads(x, 32, MIN, 0, 0);
        sheet(x, 0, 8, 99);
        x.sheet(0, 8, 1);
        due(30, "all 0 again", x.parches(0) == 1 ? x.farmIs(0, 4) : -1, 0);
        sheet(x, 0, 8, 1, 2, 99);
        x.sheet(0, 8, 1);
        x.sheet(0, 8, 3);
        x.parch(0, 50);
        due(30, "all 0 again, behind a shorter one", x.fits(0) == NONE ? x.parches(0) : -1, 1);
        due(30, "all 0 again", x.farmIs(0, 4), 0);
    }

    private static void sheetsAreApart() {
        ThirstPay x = dryFarms(1, 2);
        for (int i = 0; i < 4; i++) {
            sheet(x, i, 8 << i % 3, 1, 2);
        }
        x.sheet(1, 0, 0);
        x.put(2, 0, 9);
        due(30, "SHEET 0 is as it was", x.fits(0), 0);
        due(30, "SHEET 3 is as it was", x.fits(3), 0);
        due(31, "SHEET 2 is another", x.fits(2), NONE);
        due(30, "SHEET 1 is missing", x.put(1, 0, 0), NONE);
    }

    private static void dueRow(ThirstPay x, int sheet, int... row) {
        for (int i = 0; i < row.length; i++) {
            x.parch(i, row[i]);
        }
        due(32, "numbers of SHEET " + sheet, x.fits(sheet), 0);
    }

    private static void moveInOneRow() {
        ThirstPay x = sevenDry(0);
        sheet(x, 0, 8, 1, 2, 3, 4, 5, 6, 7);
        due(32, "up by 1", x.move(0, 0, 0, 1, 6), 6);
        dueRow(x, 0, 1, 1, 2, 3, 4, 5, 6);
        due(32, "down by 2", x.move(0, 2, 0, 0, 5), 5);
        dueRow(x, 0, 2, 3, 4, 5, 6, 5, 6);
        due(32, "in its place", x.move(0, 1, 0, 1, 6), 6);
        dueRow(x, 0, 2, 3, 4, 5, 6, 5, 6);
        due(32, "the last to the first", x.move(0, 6, 0, 0, 1), 1);
        dueRow(x, 0, 6, 3, 4, 5, 6, 5, 6);
        sheet(x, 1, 8, 9, 9);
        due(32, "two to another", x.move(0, 1, 1, 0, 2), 2);
        dueRow(x, 1, 3, 4);
        dueRow(x, 0, 6, 3, 4, 5, 6, 5, 6);
        due(32, "a third doesn't stand there", x.move(0, 1, 1, 0, 3), BEYOND);
        due(32, "nor from 1 on", x.move(1, 1, 0, 0, 2), BEYOND);
        due(32, "nor to 6 on", x.move(1, 0, 0, 6, 2), BEYOND);
        due(32, "to 5 on", x.move(1, 0, 0, 5, 2), 2);
        dueRow(x, 0, 6, 3, 4, 5, 6, 3, 4);
        x.sheet(2, 16, 24);
        x.sheet(3, 16, 24);
        due(32, "24", x.move(2, 0, 3, 0, 24), 24);
        due(32, "25", x.move(2, 0, 3, 0, 25), BEYOND);
    }

    private static void moveOfNone() {
        ThirstPay x = new ThirstPay();
        x.sheet(0, 8, 3);
        x.sheet(1, 8, 0);
        due(32, "none", x.move(0, 0, 1, 0, 0), 0);
        due(32, "none, from the end", x.move(0, 3, 1, 0, 0), 0);
        due(32, "none, to the end", x.move(1, 0, 0, 3, 0), 0);
        due(32, "none, from behind the end", x.move(0, 4, 1, 0, 0), BEYOND);
        due(32, "none, to behind the end", x.move(1, 0, 0, 4, 0), BEYOND);
        due(32, "none, from behind the end", x.move(1, 1, 0, 0, 0), BEYOND);
        due(32, "none, from below 0", x.move(0, -1, 1, 0, 0), BEYOND);
        due(32, "none, to below 0", x.move(0, 0, 1, -1, 0), BEYOND);
        due(32, "places that would wrap", x.move(0, MAX, 0, 0, 1), BEYOND);
        due(32, "places that would wrap", x.move(0, 1, 0, 0, MAX), BEYOND);
        due(32, "places that would wrap", x.move(0, 0, 0, 1, MAX), BEYOND);
        due(32, "places that would wrap", x.move(0, MAX, 0, MAX, MAX), BEYOND);
    }

    private static void parchesEnds() {
        ThirstPay x = dryFarms(50, 50, 50);
        x.sheet(0, 8, 0);
        due(33, "no numbers", x.parches(0), 0);
        due(33, "DRY stays", x.farmIs(0, 4), 50);
        sheet(x, 0, 16, 0, 99);
        due(33, "fewer than FARMS", x.parches(0), 2);
        due(33, "DRY 0", x.farmIs(0, 4), 0);
        due(33, "DRY 99", x.farmIs(1, 4), 99);
        due(33, "DRY stays", x.farmIs(2, 4), 50);
        sheet(x, 0, 16, 100, 1, 1);
        due(33, "the first is 100", x.parches(0), 0);
        due(33, "DRY stays", x.farmIs(0, 4), 0);
        due(33, "DRY stays", x.farmIs(1, 4), 99);
        sheet(x, 0, 16, 1, -1, 1);
        due(33, "the second is -1", x.parches(0), 1);
        due(33, "DRY", x.farmIs(0, 4), 1);
        due(33, "DRY stays", x.farmIs(1, 4), 99);
        due(33, "DRY stays, though its number would do", x.farmIs(2, 4), 50);
        sheet(x, 0, 32, 4, 5, 6, 7, 8);
        due(33, "more than FARMS", x.parches(0), 3);
        due(33, "DRY", x.farmIs(2, 4), 6);
        ThirstPay none = new ThirstPay();
        none.sheet(0, 8, 24);
        due(33, "no FARMS", none.parches(0), 0);
        due(33, "no ERROR", none.told(1) + none.told(2), 0);
        x = sevenDry(1);
        x.sheet(3, 8, 24);
        due(33, "all seven", x.parches(3), 7);
        due(33, "DRY", x.farmIs(6, 4), 0);
    }

    private static void judgeEnds() {
        ThirstPay x = dryFarms(1, 2, 3);
        x.sheet(0, 8, 0);
        due(34, "no numbers", x.judge(0), 0);
        sheet(x, 0, 8, 2, 3);
        due(34, "fewer than FARMS", x.judge(0), 2);
        sheet(x, 0, 8, 2, 3, 4, 5);
        due(34, "more than FARMS", x.judge(0), 3);
        sheet(x, 0, 8, 1, 3, 4);
        due(34, "the first isn't right", x.judge(0), 0);
        sheet(x, 0, 8, 2, 2, 4);
        due(34, "from the first on", x.judge(0), 1);
        x.parch(1, 1);
        due(34, "PAY now", x.judge(0), 3);
        ThirstPay none = new ThirstPay();
        none.sheet(0, 8, 24);
        due(34, "no FARMS", none.judge(0), 0);
        x = sevenDry(0);
        sheet(x, 0, 8, 1, 1, 1, 1, 1, 1, 1, 1);
        due(34, "all seven", x.judge(0), 7);
    }

    // ---- images, what is told

    private static void imageKeepsEach() {
        ThirstPay x = new ThirstPay();
        x.farm(49, 40, 30);
        x.farm(60, 1, 0);
        x.parch(0, 99);
        carriers(x, 111, 222);
        for (int i = 0; i < 3; i++) {
            x.pool(i, 300 + i);
        }
        x.carry(1, 1, 1);
        x.parch(0, 98);
        x.hours(1);
        x.hour(4321);
        x.seed(-5);
        feedWords(x, "p+77");
        x.text(1);
        feedWords(x, "g-12");
        x.text(0);
        feedWords(x, "d/2+");
        x.tell(0);
        x.tell(144);
        due(35, "image", x.image(), 1);
        // Each is then made another.
        x.become(0, 11);
        x.graze(0, 1);
        x.parch(0, 1);
        x.parch(1, 55);
        x.farm(20, 9, 9);
        x.carrier(33);
        x.carry(0, 2, 2);
        x.pool(0, 0);
        feedWords(x, "1");
        due(14, "d/2+1", x.text(0), 1);
        x.untell(1);
        x.hours(72);
        x.loose(24);
        due(17, "PARCHED is another", x.hours(72) > 1 ? 1 : 0, 1);
        feedWords(x, "99999999");
        x.check();
        x.tell(7);
        due(36, "HOUR", x.restore(), 4321);
        int[] bull = {4, 9, 40, 30, 99, 99, 8, 144 + 77};
        int[] hermit = {6, 0, 1, 0, 0, 0, 0, 77};
        for (int i = 0; i < 8; i++) {
            due(36, "farmIs(0, " + i + ")", x.farmIs(0, i), bull[i]);
            due(36, "farmIs(1, " + i + ")", x.farmIs(1, i), hermit[i]);
        }
        int[] counts = {2, 2, 4321, 1, 4, 2, 0, -5};
        for (int i = 0; i < 8; i++) {
            due(36, "count(" + i + ")", x.count(i), counts[i]);
        }
        due(36, "BELLY", x.carrierIs(0, 0), 111);
        due(36, "BELLY", x.carrierIs(1, 0), 222);
        due(36, "EARNED", x.carrierIs(0, 1), 0);
        due(36, "EARNED", x.carrierIs(1, 1), 144);
        int[] water = {301, 301 - 99 + 2, 305};
        for (int i = 0; i < 3; i++) {
            due(36, "WATER", x.pool(i, 0), water[i]);
        }
        due(36, "numbers that wait", x.check(), 0);
        feedWords(x, "h");
        due(36, "THE TAPE", x.text(0), 1);
        due(36, "d/2+h", x.law(0, 0, 10, 3), 8);
    }

    private static void imageLeavesSome() {
        ThirstPay x = dryFarms(7);
        sheet(x, 0, 8, 7);
        x.voice(0, 0, 0);
        x.told(9);
        due(35, "image", x.image(), 1);
        sheet(x, 0, 16, 8, 9);
        x.sheet(1, 32, 5);
        x.voice(0, 2, 0);
        x.told(9);
        x.restore();
        due(36, "the SHEET is as it is now", x.put(0, 1, 9), 1);
        due(36, "the SHEET is as it is now", x.judge(0), 1);
        due(36, "the SHEET is as it is now", x.put(1, 4, 1), 1);
        due(36, "THE TRACE is as it is now", x.count(6), 3);
        due(36, "THE TRACE is as it is now", x.body(0), 12);
        due(36, "what told() tells is as it is now", x.told(1), 2);
        due(35, "how often is as it is now", x.image(), 2);
    }

    private static void restoreGoesBackAndBackAgain() {
        ThirstPay x = dryFarms(7);
        due(36, "there is none", x.restore(), NONE);
        x.image();
        for (int i = 0; i < 3; i++) {
            x.parch(0, 50 + i);
            x.farm(0, 1, 0);
            due(36, "back", x.restore(), 0);
            due(36, "DRY", x.farmIs(0, 4), 7);
            due(36, "FARMS", x.count(0), 1);
        }
        due(36, "twice in a row", x.restore(), 0);
        x.farm(9, 9, 9);
        x.parch(1, 9);
        x.hour(5);
        due(35, "in place of the one ahead", x.image(), 2);
        x.hour(6);
        due(36, "the latter", x.restore(), 5);
        due(36, "FARMS", x.count(0), 2);
        due(36, "DRY", x.farmIs(1, 4), 9);
        ThirstPay empty = new ThirstPay();
        due(35, "of nothing", empty.image(), 1);
        empty.farm(45, 6, 7);
        empty.parch(0, 8);
        empty.carrier(9);
        empty.pool(0, 999);
        empty.carry(0, 1, 0);
        due(36, "to nothing", empty.restore(), 0);
        due(36, "no FARMS", empty.count(0), 0);
        due(36, "no CARRIERS", empty.count(1), 0);
        due(2, "a new FARM", empty.farm(1, 2, 3), 0);
        int[] is = {0, 1, 2, 3, 0, 0};
        for (int i = 0; i < 6; i++) {
            due(2, "of a new FARM " + i, empty.farmIs(0, i), is[i]);
        }
        due(8, "a new CARRIER", empty.carrier(3), 0);
        due(8, "BELLY", empty.carrierIs(0, 0), 3);
        due(8, "EARNED", empty.carrierIs(0, 1), 0);
    }

    private static void tellAndCheckEnds() {
        ThirstPay x = new ThirstPay();
        due(38, "none wait", x.check(), 0);
        for (int i = 1; i <= 24; i++) {
            due(37, "tell", x.tell(i % 2 == 0 ? MIN : MAX), i);
        }
        due(37, "24 wait", x.tell(0), FULL);
        due(38, "no CARRIERS", x.check(), 1);
        due(39, "none do then", x.count(5), 0);
        due(37, "the first again", x.tell(0), 1);
        x.check();
        carriers(x, 1, 2, 3, 4);
        for (int i = 0; i < 4; i++) {
            x.tell(0);
        }
        due(38, "all four", x.check(), 0);
        for (int i = 0; i < 5; i++) {
            x.tell(0);
        }
        due(38, "there is no fifth", x.check(), 5);
        x.tell(0);
        x.tell(0);
        x.tell(0);
        x.tell(1);
        x.tell(9);
        due(38, "the fourth is the first that isn't so", x.check(), 4);
        due(38, "none wait", x.check(), 0);
        x.tell(-1);
        due(38, "the first", x.check(), 1);
    }

    private static void toldOf511() {
        ThirstPay x = new ThirstPay();
        for (int i = 0; i < 511; i++) {
            x.told(7);
        }
        due(40, "counted, too", x.told(1), 511);
    }

    private static void acts512() {
        ThirstPay x = new ThirstPay();
        for (int i = 1; i <= 511; i++) {
            due(35, "image", x.image(), i);
        }
        due(36, "the 512th call", x.restore(), 0);
    }
}
