/** Promises 19 to 24: who, where, as what. */
public final class WishTest {
    public static void main(String[] args) {
        start();
        kindsFor();
        moods();
        wishesWrong();
        windFor();
        home();
        shut();
        startAtTheLastField();
        setsHaveTheirLastBits();
        asManyHoursAsTold();
        windFromZeroToNine();
        homeOfAllEight();
        shutAtItsEdges();
        Due.end();
    }

    private static void start() {
        GateManners x = Due.farm("postman in 6;mean in 3 back");
        Due.due("19 0 goes 0 and 1", x.start(0, 1, 3, 1), 0);
        Due.due("19 6 goes 6 and 7", x.start(0, 7, 3, 1), 6);
        Due.due("19 already so: the least", x.start(0, 7, 0, 0), 0);
        Due.due("19 never", x.start(0, 7, 2, 40), Due.NONE);
        Due.due("19 n 0", x.start(0, 0, 3, 0), Due.NONE);
        // The mean one goes back through 2 behind the postman, wherever he was.
        Due.due("19 behind him", x.start(0, 2, 3, 1), Due.NONE);
        x.gate(7, 3);
        x.change(1, 2, 0);
        Due.due("19 on, through 7", x.start(1, 7, 0, 1), 7);
        Due.due("19 nothing changes", x.of(1, 1) + x.now(0), 3);
    }

    private static void kindsFor() {
        GateManners x = Due.farm("walker in 3;ajar 3");
        // 0 and, mood 3, the child, who doesn't go, leave it ajar; a stranger doesn't go either.
        Due.due("20 ajar", x.kindsFor(0, 3, 1, 1), 0b0011001);
        Due.due("20 shut", x.kindsFor(0, 3, 0, 1), 0b0100000);
        Due.due("20 open", x.kindsFor(0, 3, 2, 1), 0b0000100);
        Due.due("20 propped", x.kindsFor(0, 3, 3, 1), 0b1000010);
        Due.due("20 no hour", x.kindsFor(0, 3, 1, 0), 127);
        Due.due("20 none", x.kindsFor(0, 3, 0, 0), 0);
        // Those that go two gates an hour.
        Due.due("20 two", x.kindsFor(0, 4, 1, 1), 0b1000000);
        Due.due("20 nothing changes", x.of(0, 0) + x.now(0), 0);
    }

    private static void moods() {
        GateManners x = Due.farm("child in 7 back");
        // At 5 and more it goes two gates; 6 is left by its mood modulo 4.
        Due.due("21 0", x.moods(0, 6, 0, 1), 0b0100011111);
        Due.due("21 1", x.moods(0, 6, 1, 1), 0b1000100000);
        Due.due("21 2", x.moods(0, 6, 2, 1), 0b0001000000);
        Due.due("21 3", x.moods(0, 6, 3, 1), 0b0010000000);
        Due.due("21 none", x.moods(0, 0, 3, 1), 0);
        Due.due("21 no hour", x.moods(0, 6, 0, 0), 1023);
        Due.due("21 nothing changes", x.of(0, 3) + x.now(0), 3);
    }

    private static void wishesWrong() {
        GateManners x = Due.farm("walker");
        int[][] wrong = {{1, 0, 0, 0}, {-1, 0, 0, 0}, {0, 8, 0, 0}, {0, -1, 0, 0}, {0, 0, 4, 0}, {0, 0, -1, 0},
            {0, 0, 0, 41}, {0, 0, 0, -1}, {0, 0, 0, Integer.MIN_VALUE}, {Integer.MAX_VALUE, 0, 0, 0}};
        for (int[] w : wrong) {
            Due.due("19 wrong", x.start(w[0], w[1], w[2], w[3]), Due.BEYOND);
            Due.due("20 wrong", x.kindsFor(w[0], w[1], w[2], w[3]), Due.BEYOND);
            Due.due("21 wrong", x.moods(w[0], w[1], w[2], w[3]), Due.BEYOND);
        }
        Due.due("19 40", x.start(0, 0, 0, 40), 0);
        Due.due("20 40", x.kindsFor(0, 0, 0, 40) & 1, 1);
        Due.due("21 40", x.moods(0, 0, 0, 40), 1023);
    }

    private static void windFor() {
        GateManners x = Due.farm("beasts 1 100;open 1;walker in 1");
        Due.due("22 calm is fine", x.windFor(2, 25, 1), 0);
        Due.due("22 he shuts it at 5", x.windFor(2, 24, 1), 5);
        x = Due.farm("beasts 1 100;open 1");
        Due.due("22 25 in the first hour", x.windFor(2, 24, 1), Due.NONE);
        Due.due("22 shut behind that at 7", x.windFor(2, 25, 2), 7);
        Due.due("22 now", x.windFor(1, 100, 0), 0);
        Due.due("22 not now", x.windFor(1, 99, 0), Due.NONE);
        Due.due("22 nothing changes", x.wind(0) + x.now(0), 0);
        Due.due("22 n 41", x.windFor(0, 0, 41), Due.BEYOND);
        Due.due("22 n -1", x.windFor(0, 0, -1), Due.BEYOND);
        Due.due("22 v 10000", x.windFor(0, 10000, 0), Due.BEYOND);
        Due.due("22 v -1", x.windFor(0, -1, 0), Due.BEYOND);
        Due.due("22 9", x.windFor(9, 0, 0), Due.BEYOND);
        Due.due("22 -1", x.windFor(-1, 0, 0), Due.BEYOND);
        Due.due("22 40", x.windFor(0, 0, 40), 0);
    }

    private static void home() {
        GateManners x = Due.farm("beasts 4 100;postman in 3;mean in 3;postman in 4;daughter in 4");
        // 0 and 2 prop 4; 3 does so too, as it is propped then, or leaves it ajar.
        Due.due("23 nobody is in the way", x.home(0, 0, 1), 0);
        Due.due("23 all three", x.home(5, 5, 1), 0b1101);
        Due.due("23 ajar is fine", x.home(5, 6, 1), 0b0101);
        Due.due("23 25 are fine", x.home(5, 25, 1), 0);
        Due.due("23 never", x.home(4, 0, 20), Due.NONE);
        Due.due("23 no hour", x.home(4, 99, 0), Due.NONE);
        Due.due("23 no hour", x.home(4, 100, 0), 0);
        x = Due.farm("propped 0;beasts 0 64;child in 1 back mood 6;child in 1 back mood 6");
        // Both: 3 + 6 = 9, 1; open, 2 + 6 = 8, 0. One: 1, a sixteenth.
        Due.due("23 both may go", x.home(1, 0, 1), 0);
        x = Due.farm("propped 0;beasts 0 64;mean in 1 back;child in 1 back mood 5;child in 1 back mood 5");
        // Shut, then 0 + 5 = 1, then 2 + 5 = 3; without any one of them it is ajar, without two shut.
        Due.due("23 of several the least", x.home(1, 4, 1), 0b001);
        Due.due("23 of several the least", x.home(1, 0, 1), 0b011);
        Due.due("23 nothing changes", x.now(0) + x.now(4), 0);
        x = Due.farm("propped 0;beasts 0 64;child in 1 back mood 6;child in 1 back mood 6;child in 1 back mood 5");
        // 3 + 6 = 1, 2 + 6 = 0 without the last; 3 + 5 = 0 without the first two: fewest ahead of least.
        Due.due("23 fewest", x.home(1, 0, 1), 0b100);
        Due.due("23 n 21", x.home(0, 0, 21), Due.BEYOND);
        Due.due("23 n -1", x.home(0, 0, -1), Due.BEYOND);
        Due.due("23 v 10000", x.home(0, 10000, 0), Due.BEYOND);
        Due.due("23 v -1", x.home(0, -1, 0), Due.BEYOND);
        Due.due("23 9", x.home(9, 0, 0), Due.BEYOND);
        Due.due("23 -1", x.home(-1, 0, 0), Due.BEYOND);
        x = new GateManners();
        Due.due("23 no walkers", x.home(0, 0, 20), 0);
        x.beasts(0, 1);
        Due.due("23 no walkers", x.home(0, 0, 20), Due.NONE);
    }

    private static void startAtTheLastField() {
        GateManners x = Due.farm("mean in 3 back;propped 7;propped 0");
        Due.due("19 8 alone", x.start(0, 7, 0, 1), 8);
        Due.due("19 1 alone", x.start(0, 0, 0, 1), 1);
        x.change(0, 2, 0);
        Due.due("19 0 alone", x.start(0, 0, 0, 1), 0);
        Due.due("19 its own field isn't asked", x.change(0, 1, 8) + x.start(0, 7, 0, 1), 3 + 7);
        // From 6 in the second hour, from 7 in the first, from 8 behind the turn.
        Due.due("19 of several the least", x.start(0, 7, 0, 2), 6);
    }

    private static void setsHaveTheirLastBits() {
        GateManners x = Due.farm("walker in 3");
        Due.due("20 the daughter alone", x.kindsFor(0, 3, 1, 1), 0b1000000);
        Due.due("20 all", x.kindsFor(0, 7, 0, 1), 0b1111111);
        x.change(0, 0, 4);
        // A stranger of mood 5 to 9 goes, and leaves a shut one as 3 less its mood modulo 4.
        Due.due("21 2 by moods 5 and 9", x.moods(0, 3, 2, 1), 0b1000100000);
        Due.due("21 1 by mood 6", x.moods(0, 3, 1, 1), 0b0001000000);
        Due.due("21 3 by mood 8", x.moods(0, 3, 3, 1), 0b0100000000);
        Due.due("21 shut by mood 7, and by 0 to 4, who stay", x.moods(0, 3, 0, 1), 0b0010011111);
    }

    /** What is told for the most hours that may be asked is what comes by going so many. */
    private static void asManyHoursAsTold() {
        String text = "dog in 3 mood 4;postman in 6 back;mean in 1;child in 5 back mood 6;ajar 2;beasts 4 5000;beasts 7 90";
        int[] many = {0, 1, 19, 20, 39, 40};
        for (int n : many) {
            for (int gate = 0; gate < 8; gate++) {
                int[] kinds = setsOf(text, 0, 7, gate, n);
                int[] fields = setsOf(text, 1, 9, gate, n);
                int[] moods = setsOf(text, 3, 10, gate, n);
                for (int s = 0; s < 4; s++) {
                    GateManners x = Due.farm(text);
                    long least = fields[s] == 0 ? Due.NONE : Integer.numberOfTrailingZeros(fields[s]);
                    Due.due("19 gate " + gate + " s " + s + " n " + n, x.start(0, gate, s, n), least);
                    Due.due("20 gate " + gate + " s " + s + " n " + n, x.kindsFor(0, gate, s, n), kinds[s]);
                    Due.due("21 gate " + gate + " s " + s + " n " + n, x.moods(0, gate, s, n), moods[s]);
                }
            }
        }
    }

    /** By how the gate stands then: for which values of a part of walker 0, as a set. */
    private static int[] setsOf(String text, int what, int values, int gate, int n) {
        int[] sets = new int[4];
        for (int v = 0; v < values; v++) {
            GateManners x = Due.farm(text);
            x.change(0, what, v);
            if (n > 0) {
                x.go(n);
            }
            sets[x.stands(gate)] |= 1 << v;
        }
        return sets;
    }

    private static void windFromZeroToNine() {
        String text = "walker in 2;postman in 7 back;daughter in 4;ajar 0;open 2;propped 5;beasts 0 900;beasts 2 700;beasts 6 9999";
        int[] many = {0, 1, 2, 40};
        for (int n : many) {
            for (int field = 0; field < 9; field++) {
                int[] then = new int[10];
                for (int wind = 0; wind <= 9; wind++) {
                    GateManners x = Due.farm(text);
                    x.wind(wind);
                    if (n > 0) {
                        x.go(n);
                    }
                    then[wind] = x.field(field, 0);
                }
                for (int wind = 0; wind <= 9; wind++) {
                    // Just so many, and one fewer: the least wind that does.
                    Due.due("22 just so many", Due.farm(text).windFor(field, then[wind], n), leastWind(then, then[wind]));
                    if (then[wind] > 0) {
                        Due.due("22 one fewer", Due.farm(text).windFor(field, then[wind] - 1, n), leastWind(then, then[wind] - 1));
                    }
                }
            }
        }
        // The wind that there is now is not asked.
        GateManners x = Due.farm("beasts 1 100;open 1;wind 9");
        Due.due("22 from 0 on", x.windFor(2, 25, 1), 0);
        Due.due("22 from 0 on", x.windFor(2, 25, 2), 7);
        Due.due("22 and stays", x.wind(0), 9);
    }

    private static long leastWind(int[] then, int v) {
        for (int wind = 0; wind <= 9; wind++) {
            if (then[wind] <= v) {
                return wind;
            }
        }
        return Due.NONE;
    }

    private static void homeOfAllEight() {
        GateManners x = Due.farm("beasts 0 40");
        for (int i = 0; i < 8; i++) {
            x.walker(1, 0);
        }
        Due.due("23 all eight", x.home(1, 0, 1), 255);
        Due.due("23 none", x.home(1, 10, 1), 0);
        Due.due("23 9 are too few", x.home(1, 9, 1), 255);
        for (int i = 0; i < 7; i++) {
            x.change(i, 0, 5);
        }
        Due.due("23 the last alone", x.home(1, 0, 1), 128);
        x.change(7, 0, 5);
        x.change(0, 0, 1);
        Due.due("23 the mean ones shut it", x.home(1, 0, 1), 0);
        // Behind no hours it is as it is, whoever stays.
        Due.due("23 no hour", x.home(0, 39, 0), Due.NONE);
        Due.due("23 no hour", x.home(0, 40, 0), 0);
        homeForTwentyHours();
    }

    /** Of the sets that help those of fewest, and of these the least: by going 20 hours without them. */
    private static void homeForTwentyHours() {
        String text = "postman in 2;child in 6 back mood 6;daughter in 4;beasts 3 3000;beasts 0 10";
        int[] then = new int[8];
        for (int home = 0; home < 8; home++) {
            // Those at home are children of mood 0, who never go.
            GateManners x = Due.farm(text);
            for (int i = 0; i < 3; i++) {
                if ((home >> i & 1) == 1) {
                    x.change(i, 0, 3);
                    x.change(i, 3, 0);
                }
            }
            x.go(20);
            then[home] = x.field(8, 0);
        }
        for (int so : then) {
            Due.due("23 twenty hours, just " + so, Due.farm(text).home(8, so, 20), fewestHome(then, so));
            if (so > 0) {
                Due.due("23 twenty hours, one fewer than " + so, Due.farm(text).home(8, so - 1, 20), fewestHome(then, so - 1));
            }
        }
    }

    private static long fewestHome(int[] then, int v) {
        int[] fewestFirst = {0, 1, 2, 4, 3, 5, 6, 7};
        for (int home : fewestFirst) {
            if (then[home] <= v) {
                return home;
            }
        }
        return Due.NONE;
    }

    private static void shutAtItsEdges() {
        GateManners x = Due.farm("beasts 0 9999;beasts 1 9995;open 0");
        // With gate 0 shut 9999 stay, with any other one 9998.
        Due.due("24 one fewer than 9999", x.shut(0, 1), 1);
        x = Due.farm("beasts 8 9999;beasts 7 9999");
        Due.due("24 9999 with each: the least", x.shut(8, 40), 0);
        x = Due.farm("beasts 7 100;open 7");
        Due.due("24 the last gate", x.shut(8, 1), 7);
        Due.due("24 no hour: the least", x.shut(8, 0), 0);
        x = Due.farm("beasts 1 100;open 0");
        Due.due("24 the first gate", x.shut(0, 1), 0);
        String text = "postman in 2;child in 6 back mood 6;daughter in 4;open 5;beasts 3 3000;beasts 0 10;wind 7";
        int[] many = {1, 39, 40};
        for (int n : many) {
            for (int field = 0; field < 9; field++) {
                int best = 0;
                int fewest = 10000;
                for (int gate = 0; gate < 8; gate++) {
                    GateManners y = Due.farm(text);
                    y.gate(gate, 0);
                    y.go(n);
                    if (y.field(field, 0) < fewest) {
                        fewest = y.field(field, 0);
                        best = gate;
                    }
                }
                Due.due("24 field " + field + " behind " + n, Due.farm(text).shut(field, n), best);
            }
        }
    }

    private static void shut() {
        GateManners x = Due.farm("beasts 2 100;beasts 3 40;open 1;open 2;beasts 1 40;open 3");
        Due.due("24 in 3", x.shut(3, 1), 2);
        Due.due("24 in 1", x.shut(1, 1), 1);
        Due.due("24 in 4", x.shut(4, 1), 3);
        Due.due("24 of several the least", x.shut(7, 9), 0);
        Due.due("24 no hour", x.shut(2, 0), 0);
        // From 2 beasts go both ways: no gate but 1 and 2 keeps them; 0 is the least of those that let them go.
        Due.due("24 fewest in 2", x.shut(2, 1), 0);
        Due.due("24 nothing changes", x.now(3), 0b10101000);
        // The postman goes through 1 and props it again, so shutting it is no help.
        x = Due.farm("beasts 2 100;open 1;postman in 1");
        Due.due("24 walkers go", x.shut(1, 1), 0);
        x = Due.farm("beasts 2 100;open 1;postman in 2");
        Due.due("24 and elsewhere", x.shut(1, 1), 1);
        Due.due("24 n 41", x.shut(0, 41), Due.BEYOND);
        Due.due("24 n -1", x.shut(0, -1), Due.BEYOND);
        Due.due("24 9", x.shut(9, 0), Due.BEYOND);
        Due.due("24 -1", x.shut(-1, 0), Due.BEYOND);
        Due.due("24 40", x.shut(8, 40) >= 0 ? 1 : 0, 1);
    }
}
