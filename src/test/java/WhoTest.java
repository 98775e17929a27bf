/** Promises 25 to 27: who came by. */
public final class WhoTest {
    public static void main(String[] args) {
        who();
        fits();
        kinds();
        minusOneByBits();
        whoOfAllEight();
        beyondTheFirstEight();
        fitsForTwentyHours();
        kindsToTheFortiethNumber();
        Due.end();
    }

    private static void who() {
        GateManners x = Due.farm("postman;mean;daughter;walker in 1;dog in 2 back");
        Due.fill(x, 0, 3, 3);
        Due.due("25 the postman", x.who(0), 0b00001);
        Due.fill(x, 0, 3, 3, 0, 0);
        Due.due("25 in one hour", x.who(0), 0b00001);
        Due.fill(x, 0, 1, 1);
        Due.due("25 the daughter", x.who(0), 0b00100);
        Due.fill(x, 0, 0, 0, 0, 0, 0, 0, 0, 0);
        Due.due("25 who leave all shut", x.who(0), 0b11010);
        Due.fill(x, 0, 0, -1);
        Due.due("25 any", x.who(0), 0b11010);
        Due.fill(x, 0, -1, -1);
        Due.due("25 all", x.who(0), 0b11111);
        Due.fill(x, 0);
        Due.due("25 nothing asked", x.who(0), 0b11111);
        Due.fill(x, 0, 4);
        Due.due("25 no such manner", x.who(0), 0);
        Due.fill(x, 0, 0, 0, 0, 0, 0, 0, 0, 1);
        Due.due("25 the last gate", x.who(0), 0);
        Due.fill(x, 0, 0, 0, 0, 0, 0, 0, 0, 0, 9, 9);
        Due.due("25 beyond the first eight", x.who(0), 0b11010);
        // Behind the hour, so the wind has shut what the daughter left ajar.
        x.wind(7);
        Due.fill(x, 0, 0, 0);
        Due.due("25 wind", x.who(0), 0b11110);
        Due.due("25 nothing changes", x.now(0) + x.now(3), 0);
        Due.due("25 4", x.who(4), Due.BEYOND);
        Due.due("25 -1", x.who(-1), Due.BEYOND);
        Due.due("25 missing", x.who(3), Due.MISSING);
        x = new GateManners();
        x.sheet(3, 8, 0);
        Due.due("25 nobody", x.who(3), 0);
    }

    /** -1 is any, and so is what its lowest bits make -1; another number that no gate stands is not. */
    private static void minusOneByBits() {
        int[][] any = {{8, -1}, {8, 255}, {8, 0x1ff}, {16, -1}, {16, 65535}, {32, -1}};
        int[][] not = {{8, -2}, {8, 254}, {8, 127}, {8, 128}, {16, 255}, {16, -2}, {16, 65534}, {32, 255}, {32, 65535},
            {32, -2}, {32, Integer.MIN_VALUE}, {32, Integer.MAX_VALUE}, {32, 4}};
        for (int[] row : any) {
            GateManners x = oneNumber(row);
            Due.due("25 any: " + row[1] + " of " + row[0] + " bits", x.who(0), 1);
            Due.due("26 any: " + row[1] + " of " + row[0] + " bits", x.fits(0, 0, 1), 511);
            Due.due("27 any: " + row[1] + " of " + row[0] + " bits", x.kinds(0, 0), 127);
        }
        for (int[] row : not) {
            GateManners x = oneNumber(row);
            Due.due("25 not: " + row[1] + " of " + row[0] + " bits", x.who(0), 0);
            Due.due("26 not: " + row[1] + " of " + row[0] + " bits", x.fits(0, 0, 1), 0);
            Due.due("27 not: " + row[1] + " of " + row[0] + " bits", x.kinds(0, 0), 0);
        }
        // 259 of 8 bits is 3: a way to stand, and a mood.
        GateManners x = oneNumber(new int[] {8, 259});
        x.change(0, 0, 1);
        Due.due("25 259 of 8 bits", x.who(0), 1);
        Due.due("27 259 of 8 bits", x.kinds(0, 0), 127);
    }

    private static GateManners oneNumber(int[] bitsAndNumber) {
        GateManners x = Due.farm("walker");
        x.sheet(0, bitsAndNumber[0], 1);
        x.write(0, 0, bitsAndNumber[1]);
        return x;
    }

    private static void whoOfAllEight() {
        GateManners x = new GateManners();
        x.sheet(3, 8, 1);
        Due.due("25 nobody", x.who(3), 0);
        for (int i = 0; i < 8; i++) {
            x.walker(5, 0);
        }
        Due.due("25 all eight", x.who(3), 255);
        x.change(7, 0, 1);
        Due.due("25 all but the last", x.who(3), 127);
        x.write(3, 0, 3);
        Due.due("25 the last alone", x.who(3), 128);
        // The others stay: none of the mean ones shuts what stands open.
        x = Due.farm("mean;mean in 5;open 5;open 0");
        Due.fill(x, 0, 0, -1, -1, -1, -1, 2);
        Due.due("25 the first alone", x.who(0), 1);
        Due.fill(x, 0, 2, -1, -1, -1, -1, 0);
        Due.due("25 the second alone", x.who(0), 2);
        Due.fill(x, 0, 0, -1, -1, -1, -1, 0);
        Due.due("25 neither alone", x.who(0), 0);
    }

    private static void beyondTheFirstEight() {
        GateManners x = Due.farm("mean in 7;propped 7");
        for (int n = 0; n <= 40; n++) {
            x.sheet(0, 8, n);
            if (n > 8) {
                x.write(0, n - 1, 77);
                x.write(0, 8, 3);
            }
            Due.due("25 of " + n + " numbers", x.who(0), 1);
            Due.due("26 of " + n + " numbers", x.fits(0, 0, 1), n < 8 ? 511 : 0b010000000);
        }
        x.write(0, 7, 3);
        Due.due("25 the eighth is asked", x.who(0), 0);
        Due.due("26 the eighth is asked", x.fits(0, 0, 1), 0b101111111);
        x.change(0, 2, 1);
        x.write(0, 7, 0);
        Due.due("26 the last field alone", x.fits(0, 0, 1), 0b100000000);
    }

    private static void fitsForTwentyHours() {
        String text = "dog in 3 mood 1;postman in 6 back;mean in 1;ajar 2;open 4;propped 6;wind 3";
        int[] many = {0, 1, 19, 20};
        for (int n : many) {
            for (int field = 0; field < 9; field++) {
                // Those that stay are children of mood 0, who never go.
                GateManners x = Due.farm(text);
                for (int i = 1; i < 3; i++) {
                    x.change(i, 0, 3);
                    x.change(i, 3, 0);
                }
                x.change(0, 1, field);
                if (n > 0) {
                    x.go(n);
                }
                GateManners y = Due.farm(text);
                y.sheet(2, 16, 8);
                for (int gate = 0; gate < 8; gate++) {
                    y.write(2, gate, x.stands(gate));
                }
                Due.due("26 from " + field + " in " + n, y.fits(2, 0, n) >> field & 1, 1);
                y.write(2, 3, x.stands(3) + 1 & 3);
                Due.due("26 not from " + field + " in " + n, y.fits(2, 0, n) >> field & 1, 0);
            }
        }
    }

    /** The last number of 40 is the mood behind 39 hours; a sheet of n numbers asks for n - 1 hours. */
    private static void kindsToTheFortiethNumber() {
        String text = "dog in 3 mood 1;postman in 6 back;mean in 1;ajar 2;daughter in 4";
        int[] many = {1, 2, 3, 39, 40};
        for (int n : many) {
            int[] then = new int[7];
            for (int kind = 0; kind < 7; kind++) {
                GateManners x = Due.farm(text);
                x.change(0, 0, kind);
                then[kind] = x.where(0, 3, n - 1);
            }
            GateManners y = Due.farm(text);
            y.sheet(1, 8, n);
            for (int i = 0; i < n; i++) {
                y.write(1, i, -1);
            }
            for (int mood = 0; mood <= 10; mood++) {
                y.write(1, n - 1, mood);
                int due = 0;
                for (int kind = 0; kind < 7; kind++) {
                    due |= then[kind] == mood ? 1 << kind : 0;
                }
                Due.due("27 mood " + mood + " as number " + n, y.kinds(1, 0), due);
            }
        }
        GateManners x = Due.farm("walker in 3");
        Due.fill(x, 0, 3, 9);
        Due.due("27 the postman, and the last kind", x.kinds(0, 0), 0b1000010);
    }

    private static void fits() {
        GateManners x = Due.farm("mean;postman;open 2;open 5");
        Due.fill(x, 1, -1, -1, 0, -1, -1, 2);
        Due.due("26 it alone shuts 2", x.fits(1, 0, 1), 0b000000100);
        Due.due("26 two hours", x.fits(1, 0, 2), 0b000000110);
        Due.fill(x, 1, -1, -1, 0, -1, -1, 0);
        // From 2 it takes four hours; from 1 five; from 0 six. Nowhere else both, in six hours.
        Due.due("26 four", x.fits(1, 0, 4), 0b000000100);
        Due.due("26 six", x.fits(1, 0, 6), 0b000000111);
        Due.due("26 twenty", x.fits(1, 0, 20), 0b111111111);
        Due.due("26 no hour", x.fits(1, 0, 0), 0);
        Due.fill(x, 1, 0, 0, 2, 0, 0, 2, 0, 0, 77);
        Due.due("26 no hour", x.fits(1, 0, 0), 511);
        Due.due("26 the others stay", x.fits(1, 0, 1), 0b111011011);
        Due.fill(x, 1, 3, 3);
        Due.due("26 the postman", x.fits(1, 1, 1), 1);
        Due.due("26 its field doesn't count", x.change(1, 1, 8) + x.fits(1, 1, 1), 1);
        Due.due("26 nothing changes", x.of(1, 1) + x.now(0), 8);
        Due.due("26 sheet 4", x.fits(4, 9, 99), Due.BEYOND);
        Due.due("26 sheet -1", x.fits(-1, 0, 0), Due.BEYOND);
        Due.due("26 missing ahead of the rest", x.fits(0, 9, 99), Due.MISSING);
        Due.due("26 walker 2", x.fits(1, 2, 0), Due.BEYOND);
        Due.due("26 walker -1", x.fits(1, -1, 0), Due.BEYOND);
        Due.due("26 n 21", x.fits(1, 0, 21), Due.BEYOND);
        Due.due("26 n -1", x.fits(1, 0, -1), Due.BEYOND);
    }

    private static void kinds() {
        GateManners x = Due.farm("walker in 3 mood 6;propped 3;propped 4;propped 5");
        Due.fill(x, 2, 6);
        Due.due("27 now: all", x.kinds(2, 0), 127);
        Due.fill(x, 2, 5);
        Due.due("27 now: none", x.kinds(2, 0), 0);
        Due.fill(x, 2, 6, 6);
        // The daughter: 9 less 3, twice; the walker.
        Due.due("27 6 again", x.kinds(2, 0), 0b1000001);
        Due.fill(x, 2, 6, 5);
        Due.due("27 less", x.kinds(2, 0), 0b0100000);
        Due.fill(x, 2, -1, 9);
        Due.due("27 9", x.kinds(2, 0), 0b0001110);
        // The stranger: 4 behind the first gate, (4 + 3 + 1) / 2 = 4 behind the next one.
        Due.fill(x, 2, -1, 4);
        Due.due("27 4", x.kinds(2, 0), 0b0010000);
        Due.fill(x, 2, -1, -1, 4);
        Due.due("27 4 later", x.kinds(2, 0), 0b0110000);
        Due.fill(x, 2, 6, -1, 4);
        Due.due("27 4 later", x.kinds(2, 0), 0b0110000);
        Due.fill(x, 2);
        Due.due("27 nothing asked", x.kinds(2, 0), 127);
        Due.fill(x, 2, -1, -1, -1, -1, -1, -1, -1, -1, -1, 0);
        // Beyond the eighth number too: the mean one has passed five gates by then, turned, and gone on.
        Due.due("27 long", x.kinds(2, 0), 0b0100000);
        Due.due("27 nothing changes", x.of(0, 0) + x.of(0, 3) + x.now(0), 6);
        // The others go too: the postman ahead of it props gate 3.
        x = Due.farm("postman in 3;dog in 3 mood 1");
        Due.fill(x, 0, 1, 4);
        Due.due("27 others go", x.kinds(0, 1), 0b0000100);
        Due.due("27 sheet 4", x.kinds(4, 9), Due.BEYOND);
        Due.due("27 sheet -1", x.kinds(-1, 0), Due.BEYOND);
        Due.due("27 missing ahead of the rest", x.kinds(1, 9), Due.MISSING);
        Due.due("27 walker 2", x.kinds(0, 2), Due.BEYOND);
        Due.due("27 walker -1", x.kinds(0, -1), Due.BEYOND);
        x.sheet(0, 8, 40);
        Due.due("27 40 numbers", x.kinds(0, 1), 0);
    }
}
