/** What the tests share: the ERRORS, how an answer is held against what is due, short ways to make an object ready. */
abstract class Checks {
    static final int LOW = -1000000000;
    static final int BEYOND = LOW - 1;
    static final int NONE = LOW - 2;
    static final int STATE = LOW - 3;
    static final int FULL = LOW - 4;
    static final int KIND = LOW - 5;
    static final int PARTED = LOW - 6;

    private static int wrong = 0;

    static void due(int promise, String what, int got, int want) {
        if (got != want) {
            tellWrong(promise, what, Integer.toString(got), Integer.toString(want));
        }
    }

    static void due(int promise, String what, String got, String want) {
        if (!got.equals(want)) {
            tellWrong(promise, what, got, want);
        }
    }

    private static void tellWrong(int promise, String what, String got, String want) {
        wrong++;
        System.out.println("promise " + promise + ": " + what + " answered " + got + ", due is " + want);
    }

    static void end(String test) {
        System.out.println(test + ": " + (wrong == 0 ? "all answers are as due" : wrong + " answers are not as due"));
        if (wrong != 0) {
            System.exit(1);
        }
    }

    /** One byte a call. */
    static void feed(ThirstPay x, String text) {
        for (int i = 0; i < text.length(); i++) {
            x.feed(text.charAt(i), 1);
        }
    }

    /** Up to eight bytes a call, where calls are dear. */
    static void feedWords(ThirstPay x, String text) {
        for (int i = 0; i < text.length(); i += 8) {
            int n = Math.min(8, text.length() - i);
            long word = 0;
            for (int j = 0; j < n; j++) {
                word |= (long) text.charAt(i + j) << 8 * j;
            }
            x.feed(word, n);
        }
    }

    static int text(ThirstPay x, int use, String text) {
        feed(x, text);
        return x.text(use);
    }

    static ThirstPay dryFarms(int... dry) {
        ThirstPay x = new ThirstPay();
        for (int i = 0; i < dry.length; i++) {
            x.farm(0, 1, 0);
            x.parch(i, dry[i]);
        }
        return x;
    }

    static void carriers(ThirstPay x, int... bellies) {
        for (int belly : bellies) {
            x.carrier(belly);
        }
    }

    static void sheet(ThirstPay x, int sheet, int bits, int... numbers) {
        x.sheet(sheet, bits, numbers.length);
        for (int i = 0; i < numbers.length; i++) {
            x.put(sheet, i, numbers[i]);
        }
    }
}
