/** Promises 28 to 30: windy hours. */
public final class GalesTest {
    public static void main(String[] args) {
        gales();
        manyGales();
        drawsWrapAround();
        galesAtTheLastGate();
        odds();
        oddsOfNoDraws();
        seed();
        anySeed();
        Due.end();
    }

    private static void gales() {
        GateManners x = new GateManners();
        // z 1: 1103527590, then 2524885223 (as an int below 0); their rests are of z >>> 8.
        int first = 1103527590;
        int second = first * 1103515245 + 12345;
        int wind = (first >>> 8) % 10;
        int gate = (second >>> 8) % 8;
        Due.due("28 wind below 7 here", wind < 7 ? 1 : 0, 1);
        Due.due("28 one", x.gales(1), 1 << gate);
        Due.due("28 open", x.stands(gate), 2);
        Due.due("28 wind", x.wind(0), wind);
        Due.due("28 z", x.count(6), second);
        Due.due("28 hour", x.now(0), 1);
        Due.due("28 0", x.gales(0), Due.BEYOND);
        Due.due("28 21", x.gales(21), Due.BEYOND);
        Due.due("28 -1", x.gales(-1), Due.BEYOND);
        Due.due("28 far", x.gales(Integer.MIN_VALUE), Due.BEYOND);
        Due.due("28 unchanged", x.count(6), second);
    }

    private static void manyGales() {
        for (int seed = -50; seed < 50; seed++) {
            GateManners x = Due.farm("postman in 3;child in 6 back mood 8;beasts 4 5000;beasts 7 99");
            GateManners y = Due.farm("postman in 3;child in 6 back mood 8;beasts 4 5000;beasts 7 99");
            x.seed(seed * 10007);
            int z = seed * 10007;
            for (int i = 0; i < 20; i++) {
                z = z * 1103515245 + 12345;
                y.wind((z >>> 8) % 10);
                z = z * 1103515245 + 12345;
                y.gate((z >>> 8) % 8, 2);
                y.go(1);
            }
            Due.due("28 twenty", x.gales(20), y.now(2));
            Due.due("28 stand", x.now(3), y.now(3));
            Due.due("28 z", x.count(6), z);
            Due.due("28 wind", x.wind(0), y.wind(0));
            for (int f = 0; f < 9; f++) {
                Due.due("28 beasts", x.field(f, 0), y.field(f, 0));
            }
        }
    }

    /** z is an int, wherever it begins; what a draw gives is never below 0. */
    private static void drawsWrapAround() {
        int[] seeds = {Integer.MIN_VALUE, Integer.MAX_VALUE, -1, 0, 1, 1 << 30, -1 << 30, 2147483, -12345};
        for (int seed : seeds) {
            GateManners x = new GateManners();
            x.seed(seed);
            long first = seed * 1103515245L + 12345 & 0xffffffffL;
            long second = first * 1103515245L + 12345 & 0xffffffffL;
            long wind = (first >> 8) % 10;
            long gate = (second >> 8) % 8;
            Due.due("28 seed " + seed, x.gales(1), wind < 7 ? 1 << gate : 0);
            Due.due("28 z of seed " + seed, x.count(6), (int) second);
            Due.due("28 wind of seed " + seed, x.wind(0), wind);
        }
    }

    private static void galesAtTheLastGate() {
        boolean[] seen = new boolean[8];
        boolean[] winds = new boolean[10];
        for (int seed = 0; seed < 400; seed++) {
            GateManners x = new GateManners();
            x.seed(seed * 7919);
            int set = x.gales(1);
            Due.due("28 one gate at most", Integer.bitCount(set) <= 1 && set < 256 ? 1 : 0, 1);
            int wind = x.wind(0);
            winds[wind] = true;
            Due.due("28 from wind 7 on it is shut again", set == 0 ? 1 : 0, wind >= 7 ? 1 : 0);
            if (set > 0) {
                seen[Integer.numberOfTrailingZeros(set)] = true;
                Due.due("28 open", x.stands(Integer.numberOfTrailingZeros(set)), 2);
            }
        }
        for (int gate = 0; gate < 8; gate++) {
            Due.due("28 gate " + gate + " came", seen[gate] ? 1 : 0, 1);
        }
        for (int wind = 0; wind < 10; wind++) {
            Due.due("28 wind " + wind + " came", winds[wind] ? 1 : 0, 1);
        }
        // Even a propped one is open then.
        GateManners x = new GateManners();
        for (int gate = 0; gate < 8; gate++) {
            x.gate(gate, 3);
        }
        x.gales(1);
        Due.due("28 one of them is open", x.now(3), 65535 - (1 << 2 * openOf(x)));
    }

    private static int openOf(GateManners x) {
        int open = -1;
        for (int gate = 0; gate < 8; gate++) {
            open = x.stands(gate) == 2 ? gate : open;
        }
        return open;
    }

    private static void oddsOfNoDraws() {
        GateManners x = new GateManners();
        Due.due("29 no draws, all shut, above", x.odds(0, 0), 1);
        Due.due("29 no draws, all shut, below", x.odds(0, 1), 1);
        Due.due("29 one draw, all shut, above", x.odds(1, 0), 0);
        Due.due("29 one draw, all shut, below", x.odds(1, 1), 1);
        Due.due("29 twenty, all shut, above", x.odds(20, 0), 0);
        Due.due("29 twenty, all shut, below", x.odds(20, 1), 1);
        for (int gate = 0; gate < 8; gate++) {
            x.gate(gate, 1);
        }
        Due.due("29 twenty, none shut, above", x.odds(20, 0), 1);
        Due.due("29 twenty, none shut, below", x.odds(20, 1), 1);
        Due.due("29 no draws, none shut, above", x.odds(0, 0), 1);
        x.gate(7, 0);
        x.gate(0, 0);
        Due.due("29 six: 3 to the 20th", x.odds(20, 0), 3486784401L);
        Due.due("29 six: 4 to the 20th", x.odds(20, 1), 1L << 40);
        Due.due("29 nothing is drawn", x.count(6), 1);
    }

    private static void anySeed() {
        GateManners x = new GateManners();
        int[] seeds = {0, -1, Integer.MAX_VALUE, Integer.MIN_VALUE, -1000001, -1000007, 1};
        int was = 1;
        for (int seed : seeds) {
            Due.due("30 seed " + seed, x.seed(seed), was);
            Due.due("44 z " + seed, x.count(6), seed);
            was = seed;
        }
        Due.due("30 none is a finding", x.status(-1), 0);
    }

    private static void odds() {
        long[] above = {0, 1, 1, 3, 1, 5, 3, 7, 1};
        long[] below = {1, 8, 4, 8, 2, 8, 4, 8, 1};
        GateManners x = new GateManners();
        for (int open = 0; open <= 8; open++) {
            if (open > 0) {
                x.gate(open - 1, 1 + open % 3);
            }
            long up = 1;
            long down = 1;
            for (int n = 0; n <= 20; n++) {
                Due.due("29 above, " + open + " gates " + n, x.odds(n, 0), up);
                Due.due("29 below, " + open + " gates " + n, x.odds(n, 1), down);
                up *= above[open];
                down *= below[open];
            }
            // 7 to the 20th and 8 to the 20th fit into longs.
        }
        x.gate(0, 0);
        Due.due("29 7 to the 20th", x.odds(20, 0), 79792266297612001L);
        Due.due("29 8 to the 20th", x.odds(20, 1), 1L << 60);
        Due.due("29 n 21", x.odds(21, 0), Due.BEYOND);
        Due.due("29 n -1", x.odds(-1, 0), Due.BEYOND);
        Due.due("29 what 2", x.odds(0, 2), Due.BEYOND);
        Due.due("29 what -1", x.odds(0, -1), Due.BEYOND);
        Due.due("29 far", x.odds(Integer.MAX_VALUE, 0), Due.BEYOND);
        Due.due("29 counted", x.status(0), 5);
        Due.due("29 no draw", x.count(6), 1);
    }

    private static void seed() {
        GateManners x = new GateManners();
        Due.due("30 first", x.seed(Integer.MIN_VALUE), 1);
        Due.due("30 again", x.seed(-1000003), Integer.MIN_VALUE);
        Due.due("30 looks like a finding", x.seed(5), -1000003);
        Due.due("30 but is none", x.status(-1), 0);
        Due.due("30 z", x.count(6), 5);
    }
}
