/** Promises 11 to 18: hours, and what will be. */
public final class HoursTest {
    public static void main(String[] args) {
        aWalkerGoes();
        turningCountsAsAGate();
        goesIsAskedAheadOfTheFirst();
        walkersByNumbers();
        beastsMove();
        windShuts();
        passedEnds();
        goWrong();
        theLastHour();
        now();
        aheadStandWhere();
        corn();
        when();
        meet();
        Due.end();
    }

    private static void aWalkerGoes() {
        GateManners x = Due.farm("postman;mean in 8 back");
        Due.due("11 gates by 4", x.go(1), 0b1111);
        Due.due("11 field", x.of(0, 1), 2);
        Due.due("11 mood", x.of(0, 3), 9);
        Due.due("11 passed", x.of(0, 4), 2);
        Due.due("11 back", x.of(1, 1), 7);
        Due.due("11 mean mood", x.of(1, 3), 2);
        Due.due("11 60", x.go(60) >= 0 ? 1 : 0, 1);
        Due.due("11 hour", x.now(0), 61);
    }

    private static void turningCountsAsAGate() {
        GateManners x = Due.farm("postman in 7;postman in 8;walker back");
        x.go(1);
        Due.due("11 ends in 8", x.of(0, 1), 8);
        Due.due("11 turned there", x.of(0, 2), 1);
        Due.due("11 passed one", x.of(0, 4), 1);
        Due.due("11 turned first", x.of(1, 1), 7);
        Due.due("11 and went back", x.of(1, 2), 1);
        Due.due("11 turned at 0", x.of(2, 2), 0);
        Due.due("11 stayed at 0", x.of(2, 1), 0);
        Due.due("11 mood stays", x.of(2, 3), 3);
    }

    private static void goesIsAskedAheadOfTheFirst() {
        GateManners x = Due.farm("dog mood 4;dog mood 9;propped 0;propped 1;propped 2");
        x.go(1);
        Due.due("11 once, though gay behind it", x.of(0, 1), 1);
        Due.due("11 gay now", x.of(0, 3), 7);
        Due.due("11 three", x.of(1, 1), 3);
        x = Due.farm("stranger mood 5;child mood 4");
        x.go(1);
        Due.due("11 both, though sad behind the first", x.of(0, 1), 2);
        Due.due("11 sad now", x.of(0, 3), 2);
        Due.due("11 a child that doesn't go", x.of(1, 1), 0);
        // 5 % 4 = 1, 3 - 1 = 2; then as one of mood 3: 3 - 3 = 0.
        Due.due("11 first gate by mood 5", x.stands(0), 2);
        Due.due("11 second gate by mood 3", x.stands(1), 0);
    }

    private static void walkersByNumbers() {
        GateManners x = Due.farm("postman;mean");
        x.go(1);
        Due.due("11 mean behind postman", x.stands(0), 0);
        Due.due("11 second gate", x.stands(1), 3);
        x = Due.farm("mean;postman");
        x.go(1);
        Due.due("11 postman behind mean", x.stands(0), 3);
    }

    private static void beastsMove() {
        GateManners x = Due.farm("beasts 0 103;beasts 1 0;beasts 2 55;open 0;propped 1");
        x.go(1);
        Due.due("11 a quarter", x.field(0, 0), 103 - 25);
        Due.due("11 from both sides at once", x.field(1, 0), 25 + 13);
        Due.due("11 back too", x.field(2, 0), 55 - 13);
        x = Due.farm("beasts 7 31;beasts 5 15;ajar 7;ajar 5");
        x.go(1);
        Due.due("11 a sixteenth", x.field(8, 0), 1);
        Due.due("11 none of 15", x.field(6, 0), 0);
        x = Due.farm("beasts 3 400;beasts 4 0");
        x.go(60);
        Due.due("11 shut", x.field(3, 0), 400);
        x = Due.farm("open 2;beasts 3 7;beasts 2 4");
        x.go(1);
        Due.due("11 3 more aren't a quarter", x.field(2, 0), 4);
        x.beasts(3, 8);
        x.go(1);
        Due.due("11 4 more are", x.field(2, 0), 5);
    }

    private static void windShuts() {
        GateManners x = Due.farm("ajar 0;open 1;propped 2;wind 6;beasts 0 160");
        Due.due("11 wind 6", x.go(1), 0b111001);
        x.wind(7);
        x.beasts(0, 160);
        x.beasts(1, 0);
        Due.due("11 wind 7", x.go(1), 0b110000);
        Due.due("11 beasts ahead of wind", x.field(1, 0), 10);
    }

    private static void passedEnds() {
        GateManners x = Due.farm("postman");
        x.change(0, 4, 9998);
        x.go(1);
        Due.due("11 9999 at most", x.of(0, 4), 9999);
        x.go(1);
        Due.due("11 still", x.now(4), 9999);
    }

    private static void goWrong() {
        GateManners x = new GateManners();
        Due.due("11 0", x.go(0), Due.BEYOND);
        Due.due("11 61", x.go(61), Due.BEYOND);
        Due.due("11 -1", x.go(-1), Due.BEYOND);
        for (int far : Due.FAR) {
            if (far != 10) {
                Due.due("11 far", x.go(far), Due.BEYOND);
            }
        }
        Due.due("11 unchanged", x.now(0), 0);
    }

    /** 512 calls do not come that far, so this goes on beyond them. */
    private static void theLastHour() {
        GateManners x = Due.farm("postman;beasts 0 50");
        for (int i = 0; i < 1666; i++) {
            x.go(60);
        }
        Due.due("11 hours", x.now(0), 99960);
        Due.due("11 above 99999", x.go(40), Due.STATE);
        Due.due("28 above 99999", x.gales(20) < 0 ? 1 : 0, 0);
        Due.due("28 above 99999", x.gales(20), Due.STATE);
        Due.due("11 BEYOND ahead of STATE", x.go(61), Due.BEYOND);
        Due.due("11 unchanged", x.now(0), 99980);
        Due.due("11 99999", x.go(10) < 0 ? 1 : 0, 0);
        Due.due("28 99999", x.gales(9) < 0 ? 1 : 0, 0);
        Due.due("11 99999", x.now(0), 99999);
        Due.due("11 STATE", x.go(1), Due.STATE);
        Due.due("28 STATE", x.gales(1), Due.STATE);
        Due.due("13 what will be is told still", x.ahead(0, 100) < 0 ? 1 : 0, 0);
        Due.due("45 counted", x.status(4), 4);
    }

    private static void now() {
        GateManners x = Due.farm("beasts 2 9999;beasts 5 9999;beasts 0 1;ajar 0;propped 7;mean;mean");
        x.change(0, 4, 5);
        x.change(1, 4, 7);
        Due.due("12 hour", x.now(0), 0);
        Due.due("12 beasts", x.now(1), 19999);
        Due.due("12 set", x.now(2), 0b10000001);
        Due.due("12 by 4", x.now(3), 1 + 3 * 16384);
        Due.due("12 passed", x.now(4), 12);
        Due.due("12 least of most", x.now(5), 2);
        Due.due("12 -1", x.now(-1), Due.BEYOND);
        Due.due("12 6", x.now(6), Due.BEYOND);
        for (int far : Due.FAR) {
            Due.due("12 far", x.now(far), Due.BEYOND);
        }
        x.go(3);
        Due.due("12 hour", x.now(0), 3);
    }

    private static void aheadStandWhere() {
        String text = "postman in 2;child in 7 back mood 5;dog in 4 mood 8;beasts 3 900;open 3;ajar 4;wind 2";
        for (int n = 0; n <= 100; n += n == 10 ? 90 : 1) {
            GateManners x = Due.farm(text);
            int beasts = x.ahead(3, n);
            int manner = x.stand(4, n);
            int field = x.where(1, 1, n);
            int mood = x.where(2, 3, n);
            Due.due("13 nothing changes", x.now(3), 0b0110000000);
            Due.due("13 hour stays", x.now(0), 0);
            Due.due("13 walkers stay", x.of(1, 1), 7);
            for (int i = 0; i < n; i++) {
                x.go(1);
            }
            Due.due("13 ahead " + n, beasts, x.field(3, 0));
            Due.due("14 stand " + n, manner, x.stands(4));
            Due.due("15 where " + n, field, x.of(1, 1));
            Due.due("15 mood " + n, mood, x.of(2, 3));
        }
        GateManners x = Due.farm(text);
        Due.due("13 an hour", x.ahead(4, 1), 225);
        Due.due("14 an hour", x.stand(2, 1), 3);
        Due.due("15 an hour", x.where(0, 1, 1), 4);
        Due.due("13 n 101", x.ahead(0, 101), Due.BEYOND);
        Due.due("13 n -1", x.ahead(0, -1), Due.BEYOND);
        Due.due("13 9", x.ahead(9, 0), Due.BEYOND);
        Due.due("13 -1", x.ahead(-1, 0), Due.BEYOND);
        Due.due("14 n 101", x.stand(0, 101), Due.BEYOND);
        Due.due("14 n -1", x.stand(0, -1), Due.BEYOND);
        Due.due("14 8", x.stand(8, 0), Due.BEYOND);
        Due.due("14 -1", x.stand(-1, 0), Due.BEYOND);
        Due.due("15 n 101", x.where(0, 1, 101), Due.BEYOND);
        Due.due("15 n -1", x.where(0, 1, -1), Due.BEYOND);
        Due.due("15 3", x.where(3, 1, 0), Due.BEYOND);
        Due.due("15 -1", x.where(-1, 1, 0), Due.BEYOND);
        int[] whats = {-1, 0, 2, 4, 5};
        for (int what : whats) {
            Due.due("15 what " + what, x.where(0, what, 0), Due.BEYOND);
        }
    }

    private static void corn() {
        GateManners x = Due.farm("mean;beasts 0 100;open 0");
        Due.due("16 now", x.corn(0, 100), 0);
        Due.due("16 0 of none", x.corn(8, 0), 0);
        Due.due("16 the mean one shuts first", x.corn(1, 1), Due.NONE);
        x = Due.farm("beasts 0 100;open 0");
        Due.due("16 first hour", x.corn(1, 25), 1);
        // 25, then 12 more (75 - 25 = 50).
        Due.due("16 second hour", x.corn(1, 26), 2);
        Due.due("16 second hour", x.corn(1, 37), 2);
        Due.due("16 third", x.corn(1, 38), 3);
        Due.due("16 never", x.corn(1, 51), Due.NONE);
        Due.due("16 v 9999", x.corn(0, 9999), Due.NONE);
        Due.due("16 v 10000", x.corn(0, 10000), Due.BEYOND);
        Due.due("16 v -1", x.corn(0, -1), Due.BEYOND);
        Due.due("16 9", x.corn(9, 0), Due.BEYOND);
        Due.due("16 -1", x.corn(-1, 0), Due.BEYOND);
        Due.due("16 nothing changes", x.field(0, 0) + x.now(0), 100);
        cornAtTheLastHour();
    }

    /** Beasts come to the far field ever so slowly: more in each of the hours about the 100th. */
    private static void cornAtTheLastHour() {
        String text = "beasts 0 9999;ajar 0;ajar 1;ajar 2;ajar 3;ajar 4;ajar 5;ajar 6;ajar 7";
        GateManners x = Due.farm(text);
        int at99 = x.ahead(6, 99);
        int at100 = x.ahead(6, 100);
        GateManners later = Due.farm(text);
        later.go(1);
        int at101 = later.ahead(6, 100);
        Due.due("16 more and more", at99 < at100 && at100 < at101 ? 1 : 0, 1);
        Due.due("16 100", x.corn(6, at100), 100);
        Due.due("16 101", x.corn(6, at101), Due.NONE);
        Due.due("16 100 of the later one", later.corn(6, at101), 100);
    }

    private static void when() {
        GateManners x = Due.farm("postman;mean in 8 back");
        Due.due("17 now", x.when(7, 0), 0);
        Due.due("17 1", x.when(0, 3), 1);
        Due.due("17 4", x.when(7, 3), 4);
        Due.due("17 never", x.when(0, 1), Due.NONE);
        Due.due("17 s 4", x.when(0, 4), Due.BEYOND);
        Due.due("17 s -1", x.when(0, -1), Due.BEYOND);
        Due.due("17 8", x.when(8, 0), Due.BEYOND);
        Due.due("17 -1", x.when(-1, 0), Due.BEYOND);
        Due.due("17 nothing changes", x.now(3) + x.now(0), 0);
        x = Due.farm("child mood 0;ajar 0");
        Due.due("17 a child of mood 0 stays", x.when(0, 0), Due.NONE);
    }

    private static void meet() {
        GateManners x = Due.farm("walker;walker in 8 back;walker in 3;child in 5 mood 0;walker in 1");
        Due.due("18 4", x.meet(0, 1), 4);
        Due.due("18 the other way round", x.meet(1, 0), 4);
        Due.due("18 5", x.meet(0, 3), 5);
        Due.due("18 not the first again", x.meet(2, 3), 2);
        x.change(2, 1, 0);
        Due.due("18 now", x.meet(0, 2), 0);
        x = Due.farm("child mood 0;child in 1 mood 0");
        Due.due("18 never", x.meet(0, 1), Due.NONE);
        Due.due("18 itself", x.meet(0, 0), Due.BEYOND);
        Due.due("18 none", x.meet(0, 2), Due.BEYOND);
        Due.due("18 none", x.meet(2, 0), Due.BEYOND);
        Due.due("18 -1", x.meet(-1, 0), Due.BEYOND);
        Due.due("18 -1", x.meet(0, -1), Due.BEYOND);
        // In 8 and 7 behind an hour; then the first one turns in 8, and the other one comes.
        x = Due.farm("walker in 7;walker in 6");
        Due.due("18 while it turns", x.meet(0, 1), 2);
    }
}
