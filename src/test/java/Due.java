/** Compares answers with what is due, for the tests; a test ends with end(). */
final class Due {
    static final long BEYOND = -1000001;
    static final long FULL = -1000002;
    static final long KIND = -1000003;
    static final long NONE = -1000004;
    static final long STATE = -1000005;
    static final long MISSING = -1000006;
    static final long SIZE = -1000007;
    /** Numbers that are no field, gate, walker, spot, sheet, kind or manner, on both sides. */
    static final int[] FAR = {-2, 10, 10000, 100000, Integer.MAX_VALUE, Integer.MIN_VALUE};

    private static int wrong = 0;

    private Due() {
    }

    static void due(String call, long got, long want) {
        if (got != want) {
            wrong++;
            System.out.println(call + " answered " + got + ", due is " + want);
        }
    }

    static void end() {
        System.out.println(wrong == 0 ? "all answers are as due" : wrong + " answers are not as due");
        if (wrong != 0) {
            System.exit(1);
        }
    }

    /** By fours, as an object has but 512 calls. */
    static void feedAll(GateManners x, String text) {
        int had = x.count(5);
        for (int i = 0; i < text.length(); i += 4) {
            int n = Math.min(4, text.length() - i);
            int bytes = 0;
            for (int j = 0; j < n; j++) {
                bytes = bytes << 8 | text.charAt(i + j);
            }
            due("feed of \"" + text + "\"", x.feed(bytes, n), had + i + n);
        }
    }

    static int textOf(GateManners x, String text) {
        x.wipe();
        feedAll(x, text);
        return x.text();
    }

    /** A new object on which a text has been read. */
    static GateManners farm(String text) {
        GateManners x = new GateManners();
        due("text \"" + text + "\"", textOf(x, text), text.split(";").length);
        return x;
    }

    /** A sheet of 32 bits with these numbers. */
    static void fill(GateManners x, int s, int... numbers) {
        due("sheet", x.sheet(s, 32, numbers.length), numbers.length);
        for (int i = 0; i < numbers.length; i++) {
            due("write", x.write(s, i, numbers[i]), 1);
        }
    }
}
