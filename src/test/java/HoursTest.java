/** Promises 11 to 18: hours, and what will be. */
public final class HoursTest {
    public static void main(String[] args) {
        aWalkerGoes();
        turningCountsAsAGate();
        goesIsAskedAheadOfTheFirst();
        walkersByNumbers();
        beastsMove();
        quotientsAreCutBothWays();
        fieldsStayWithin9999();
        throughTheLastGates();
        windShuts();
        windFrom7On();
        passedEnds();
        turnsAtBothEnds();
        goIsAsManyHours();
        goWrong();
        theLastHour();
        now();
        nowAtItsEdges();
        aheadStandWhere();
        standAndWhereByThemselves();
        corn();
        when();
        whenAtTheLastHour();
        meet();
        meetAtTheLastHour();
        Due.end();
    }

    private static void aWalkerGoes() {
        GateManners x = Due.farm("postman;mean in 8 back");
        Due.due("11 gates by 4", x.go(1), 0b1111);
        Due.due("11 field", x.of(0, 1), 2);
        Due.due("11 mood", x.of(0, 3), 9);
        Due.due("11 passed", x.of(0, 4), 2);
        Due.due("11 back", x.of(1, 1), 7);
        Due.due("11 mean mood", x.of(1, 3), 2);
        Due.due("11 60", x.go(60) >= 0 ? 1 : 0, 1);
        Due.due("11 hour", x.now(0), 61);
    }

    private static void turningCountsAsAGate() {
        GateManners x = Due.farm("postman in 7;postman in 8;walker back");
        x.go(1);
        Due.due("11 ends in 8", x.of(0, 1), 8);
        Due.due("11 turned there", x.of(0, 2), 1);
        Due.due("11 passed one", x.of(0, 4), 1);
        Due.due("11 turned first", x.of(1, 1), 7);
        Due.due("11 and went back", x.of(1, 2), 1);
        Due.due("11 turned at 0", x.of(2, 2), 0);
        Due.due("11 stayed at 0", x.of(2, 1), 0);
        Due.due("11 mood stays", x.of(2, 3), 3);
    }

    private static void goesIsAskedAheadOfTheFirst() {
        GateManners x = Due.farm("dog mood 4;dog mood 9;propped 0;propped 1;propped 2");
        x.go(1);
        Due.due("11 once, though gay behind it", x.of(0, 1), 1);
        Due.due("11 gay now", x.of(0, 3), 7);
        Due.due("11 three", x.of(1, 1), 3);
        x = Due.farm("stranger mood 5;child mood 4");
        x.go(1);
        Due.due("11 both, though sad behind the first", x.of(0, 1), 2);
        Due.due("11 sad now", x.of(0, 3), 2);
        Due.due("11 a child that doesn't go", x.of(1, 1), 0);
        // 5 % 4 = 1, 3 - 1 = 2; then as one of mood 3: 3 - 3 = 0.
        Due.due("11 first gate by mood 5", x.stands(0), 2);
        Due.due("11 second gate by mood 3", x.stands(1), 0);
    }

    private static void walkersByNumbers() {
        GateManners x = Due.farm("postman;mean");
        x.go(1);
        Due.due("11 mean behind postman", x.stands(0), 0);
        Due.due("11 second gate", x.stands(1), 3);
        x = Due.farm("mean;postman");
        x.go(1);
        Due.due("11 postman behind mean", x.stands(0), 3);
    }

    private static void beastsMove() {
        GateManners x = Due.farm("beasts 0 103;beasts 1 0;beasts 2 55;open 0;propped 1");
        x.go(1);
        Due.due("11 a quarter", x.field(0, 0), 103 - 25);
        Due.due("11 from both sides at once", x.field(1, 0), 25 + 13);
        Due.due("11 back too", x.field(2, 0), 55 - 13);
        x = Due.farm("beasts 7 31;beasts 5 15;ajar 7;ajar 5");
        x.go(1);
        Due.due("11 a sixteenth", x.field(8, 0), 1);
        Due.due("11 none of 15", x.field(6, 0), 0);
        x = Due.farm("beasts 3 400;beasts 4 0");
        x.go(60);
        Due.due("11 shut", x.field(3, 0), 400);
        x = Due.farm("open 2;beasts 3 7;beasts 2 4");
        x.go(1);
        Due.due("11 3 more aren't a quarter", x.field(2, 0), 4);
        x.beasts(3, 8);
        x.go(1);
        Due.due("11 4 more are", x.field(2, 0), 5);
    }

    /** By how many more there are, and how many of them go: through an open, a propped, an ajar one. */
    private static void quotientsAreCutBothWays() {
        int[][] quarters = {{0, 0}, {1, 0}, {3, 0}, {4, 1}, {7, 1}, {8, 2}, {9999, 2499}};
        for (int[] q : quarters) {
            moves(2, q[0], q[1]);
            moves(3, q[0], q[1]);
        }
        int[][] sixteenths = {{0, 0}, {1, 0}, {15, 0}, {16, 1}, {31, 1}, {32, 2}, {9999, 624}};
        for (int[] q : sixteenths) {
            moves(1, q[0], q[1]);
        }
        moves(0, 9999, 0);
    }

    private static void moves(int stands, int more, int due) {
        for (int gate = 0; gate < 8; gate++) {
            for (int side = 0; side < 2; side++) {
                GateManners x = new GateManners();
                x.gate(gate, stands);
                x.beasts(gate + side, more);
                x.go(1);
                String name = "11 gate " + gate + " that stands " + stands + ", " + more + " more on side " + side;
                Due.due(name + " go", x.field(gate + 1 - side, 0), due);
                Due.due(name + " stay", x.field(gate + side, 0), more - due);
            }
        }
    }

    private static void fieldsStayWithin9999() {
        GateManners x = Due.farm("beasts 0 9999;beasts 1 9998;beasts 2 9999;beasts 3 9999;propped 0;propped 1;propped 2");
        x.go(1);
        Due.due("11 full ones stay", x.field(0, 0) + x.field(2, 0) + x.field(3, 0), 3 * 9999);
        Due.due("11 one less isn't a quarter", x.field(1, 0), 9998);
        x.beasts(1, 9995);
        x.go(1);
        Due.due("11 from both sides", x.field(1, 0), 9997);
        Due.due("11 from the left", x.field(0, 0), 9998);
        Due.due("11 from the right", x.field(2, 0), 9998);
        x = Due.farm("beasts 3 2;open 2;open 3;beasts 2 0");
        x.go(60);
        Due.due("11 none below 0", x.field(3, 0), 2);
        x = Due.farm("beasts 4 9;open 3;open 4");
        x.go(1);
        Due.due("11 to both sides at once", x.field(4, 0), 5);
    }

    /** Gate g is between fields g and g + 1, the first and the last too. */
    private static void throughTheLastGates() {
        GateManners x = Due.farm("postman in 7;daughter in 1 back");
        Due.due("11 gates 7 and 0", x.go(1), 3 * 16384 + 1);
        Due.due("11 in 8", x.of(0, 1), 8);
        Due.due("11 in 0", x.of(1, 1), 0);
        x = Due.farm("propped 0;propped 1;propped 2;propped 3;propped 4;propped 5;propped 6;propped 7");
        Due.due("11 the greatest number", x.go(1), 65535);
        Due.due("12 the greatest number", x.now(3), 65535);
        Due.due("12 the greatest set", x.now(2), 255);
    }

    private static void windFrom7On() {
        for (int wind = 0; wind <= 9; wind++) {
            GateManners x = Due.farm("ajar 0;open 3;propped 6;ajar 7");
            x.wind(wind);
            int shut = 3 * 4096;
            Due.due("11 wind " + wind, x.go(1), wind < 7 ? 1 + 2 * 64 + shut + 16384 : shut);
        }
    }

    private static void windShuts() {
        GateManners x = Due.farm("ajar 0;open 1;propped 2;wind 6;beasts 0 160");
        Due.due("11 wind 6", x.go(1), 0b111001);
        x.wind(7);
        x.beasts(0, 160);
        x.beasts(1, 0);
        Due.due("11 wind 7", x.go(1), 0b110000);
        Due.due("11 beasts ahead of wind", x.field(1, 0), 10);
    }

    private static void passedEnds() {
        GateManners x = Due.farm("postman");
        x.change(0, 4, 9998);
        x.go(1);
        Due.due("11 9999 at most", x.of(0, 4), 9999);
        x.go(1);
        Due.due("11 still", x.now(4), 9999);
        int[][] rows = {{9996, 9998}, {9997, 9999}, {9998, 9999}, {9999, 9999}};
        for (int[] row : rows) {
            x = Due.farm("postman in 3");
            x.change(0, 4, row[0]);
            x.go(1);
            Due.due("11 two more than " + row[0], x.of(0, 4), row[1]);
        }
        x = Due.farm("dog mood 9");
        x.change(0, 4, 9997);
        x.go(1);
        Due.due("11 three more than 9997", x.of(0, 4), 9999);
        Due.due("11 it is in 3 all the same", x.of(0, 1), 3);
    }

    /** Turning is one of its gates: no gate is passed by it, nothing is felt. */
    private static void turnsAtBothEnds() {
        GateManners x = Due.farm("dog in 7 mood 9;dog in 1 back mood 9;child in 8 mood 5;mean in 8;mean back;child back mood 4");
        x.go(1);
        // On through 7, the turn, back through 7.
        int[][] due = {{7, 1, 9, 2}, {1, 0, 9, 2}, {7, 1, 6, 1}, {8, 1, 3, 0}, {0, 0, 3, 0}, {0, 1, 4, 0}};
        for (int walker = 0; walker < due.length; walker++) {
            for (int what = 1; what <= 4; what++) {
                Due.due("11 walker " + walker + " what " + what, x.of(walker, what), due[walker][what - 1]);
            }
        }
        // An only walker comes back to where it began, as it began, in 18 hours, two of them turns.
        x = Due.farm("walker in 3");
        x.go(17);
        Due.due("11 not yet", x.of(0, 1), 2);
        x.go(1);
        Due.due("11 round", x.of(0, 1), 3);
        Due.due("11 on", x.of(0, 2), 0);
        Due.due("11 16 gates", x.of(0, 4), 16);
    }

    private static void goIsAsManyHours() {
        String text = "postman in 2;child in 7 back mood 5;dog in 4 mood 3;mean in 6;beasts 3 9000;open 3;ajar 4;wind 2";
        int[] many = {1, 2, 59, 60};
        for (int n : many) {
            GateManners x = Due.farm(text);
            GateManners y = Due.farm(text);
            int last = 0;
            for (int i = 0; i < n; i++) {
                last = y.go(1);
            }
            Due.due("11 go " + n, x.go(n), last);
            Due.due("11 hour " + n, x.now(0), n);
            for (int field = 0; field < 9; field++) {
                Due.due("11 field " + field + " behind " + n, x.field(field, 0), y.field(field, 0));
            }
            for (int walker = 0; walker < 4; walker++) {
                for (int what = 1; what <= 4; what++) {
                    Due.due("11 walker " + walker + " behind " + n, x.of(walker, what), y.of(walker, what));
                }
            }
        }
    }

    private static void goWrong() {
        GateManners x = new GateManners();
        Due.due("11 0", x.go(0), Due.BEYOND);
        Due.due("11 61", x.go(61), Due.BEYOND);
        Due.due("11 -1", x.go(-1), Due.BEYOND);
        for (int far : Due.FAR) {
            if (far != 10) {
                Due.due("11 far", x.go(far), Due.BEYOND);
            }
        }
        Due.due("11 unchanged", x.now(0), 0);
    }

    /** 512 calls do not come that far, so this goes on beyond them. */
    private static void theLastHour() {
        GateManners x = Due.farm("postman;beasts 0 50");
        for (int i = 0; i < 1666; i++) {
            x.go(60);
        }
        Due.due("11 hours", x.now(0), 99960);
        x.image();
        Due.due("11 above 99999", x.go(40), Due.STATE);
        Due.due("11 above 99999 by far", x.go(60), Due.STATE);
        Due.due("11 unchanged", x.now(0), 99960);
        Due.due("11 just 99999", x.go(39) < 0 ? 1 : 0, 0);
        Due.due("11 just 99999", x.now(0), 99999);
        Due.due("42 back", x.undo(), 99960);
        Due.due("28 above 99999", x.gales(20) < 0 ? 1 : 0, 0);
        int z = x.count(6);
        int wind = x.wind(0);
        x.wind(wind);
        int stood = x.now(3);
        Due.due("28 above 99999", x.gales(20), Due.STATE);
        Due.due("28 no draw", x.count(6), z);
        Due.due("28 no other wind", x.wind(wind), wind);
        Due.due("28 no gate", x.now(3), stood);
        Due.due("28 BEYOND ahead of STATE", x.gales(21), Due.BEYOND);
        Due.due("11 BEYOND ahead of STATE", x.go(61), Due.BEYOND);
        Due.due("11 unchanged", x.now(0), 99980);
        Due.due("11 99999", x.go(10) < 0 ? 1 : 0, 0);
        Due.due("28 99999", x.gales(9) < 0 ? 1 : 0, 0);
        Due.due("11 99999", x.now(0), 99999);
        Due.due("11 STATE", x.go(1), Due.STATE);
        Due.due("28 STATE", x.gales(1), Due.STATE);
        Due.due("13 what will be is told still", x.ahead(0, 100) < 0 ? 1 : 0, 0);
        Due.due("45 counted", x.status(4), 5);
    }

    private static void now() {
        GateManners x = Due.farm("beasts 2 9999;beasts 5 9999;beasts 0 1;ajar 0;propped 7;mean;mean");
        x.change(0, 4, 5);
        x.change(1, 4, 7);
        Due.due("12 hour", x.now(0), 0);
        Due.due("12 beasts", x.now(1), 19999);
        Due.due("12 set", x.now(2), 0b10000001);
        Due.due("12 by 4", x.now(3), 1 + 3 * 16384);
        Due.due("12 passed", x.now(4), 12);
        Due.due("12 least of most", x.now(5), 2);
        Due.due("12 -1", x.now(-1), Due.BEYOND);
        Due.due("12 6", x.now(6), Due.BEYOND);
        for (int far : Due.FAR) {
            Due.due("12 far", x.now(far), Due.BEYOND);
        }
        x.go(3);
        Due.due("12 hour", x.now(0), 3);
    }

    private static void nowAtItsEdges() {
        GateManners x = new GateManners();
        Due.due("12 all alike: the least", x.now(5), 0);
        for (int field = 0; field < 9; field++) {
            x.beasts(field, 1);
            Due.due("12 " + field + " alone has most", x.now(5), field);
            x.beasts(field, 0);
        }
        for (int field = 8; field >= 0; field--) {
            x.beasts(field, 1);
            Due.due("12 those from " + field + " on have most: the least", x.now(5), field);
        }
        for (int field = 0; field < 9; field++) {
            x.beasts(field, 9999);
        }
        Due.due("12 all full", x.now(1), 89991);
        Due.due("12 all full: the least", x.now(5), 0);
        for (int i = 0; i < 8; i++) {
            x.walker(0, 0);
            x.change(i, 4, 9999);
        }
        Due.due("12 passed, all of eight", x.now(4), 79992);
    }

    /** Each on an object of its own, so that none can answer what another one has tried. */
    private static void standAndWhereByThemselves() {
        String text = "postman;mean in 8 back mood 9;beasts 0 80";
        Due.due("13 by itself", Due.farm(text).ahead(0, 2), 80 - 20 - 10);
        Due.due("14 by itself, 0", Due.farm(text).stand(3, 0), 0);
        Due.due("14 by itself, 1", Due.farm(text).stand(3, 1), 0);
        Due.due("14 by itself, 2", Due.farm(text).stand(3, 2), 3);
        Due.due("14 by itself, 100", Due.farm(text).stand(7, 100), 3);
        Due.due("15 by itself, 0", Due.farm(text).where(1, 1, 0), 8);
        Due.due("15 by itself, 8", Due.farm(text).where(1, 1, 8), 0);
        // 18 hours are once there and back; 100 are 5 times that and 10.
        Due.due("15 by itself, 100", Due.farm(text).where(1, 1, 100), 1);
        Due.due("15 mood by itself, 0", Due.farm(text).where(1, 3, 0), 9);
        Due.due("15 mood by itself, 1", Due.farm(text).where(1, 3, 1), 8);
        Due.due("15 mood by itself, 9", Due.farm(text).where(1, 3, 9), 1);
        Due.due("15 mood by itself, 100", Due.farm(text).where(1, 3, 100), 0);
    }

    private static void aheadStandWhere() {
        String text = "postman in 2;child in 7 back mood 5;dog in 4 mood 8;beasts 3 900;open 3;ajar 4;wind 2";
        for (int n = 0; n <= 100; n += n == 10 ? 90 : 1) {
            GateManners x = Due.farm(text);
            int beasts = x.ahead(3, n);
            int manner = x.stand(4, n);
            int field = x.where(1, 1, n);
            int mood = x.where(2, 3, n);
            Due.due("13 nothing changes", x.now(3), 0b0110000000);
            Due.due("13 hour stays", x.now(0), 0);
            Due.due("13 walkers stay", x.of(1, 1), 7);
            for (int i = 0; i < n; i++) {
                x.go(1);
            }
            Due.due("13 ahead " + n, beasts, x.field(3, 0));
            Due.due("14 stand " + n, manner, x.stands(4));
            Due.due("15 where " + n, field, x.of(1, 1));
            Due.due("15 mood " + n, mood, x.of(2, 3));
        }
        GateManners x = Due.farm(text);
        Due.due("13 an hour", x.ahead(4, 1), 225);
        Due.due("14 an hour", x.stand(2, 1), 3);
        Due.due("15 an hour", x.where(0, 1, 1), 4);
        Due.due("13 n 101", x.ahead(0, 101), Due.BEYOND);
        Due.due("13 n -1", x.ahead(0, -1), Due.BEYOND);
        Due.due("13 9", x.ahead(9, 0), Due.BEYOND);
        Due.due("13 -1", x.ahead(-1, 0), Due.BEYOND);
        Due.due("14 n 101", x.stand(0, 101), Due.BEYOND);
        Due.due("14 n -1", x.stand(0, -1), Due.BEYOND);
        Due.due("14 8", x.stand(8, 0), Due.BEYOND);
        Due.due("14 -1", x.stand(-1, 0), Due.BEYOND);
        Due.due("15 n 101", x.where(0, 1, 101), Due.BEYOND);
        Due.due("15 n -1", x.where(0, 1, -1), Due.BEYOND);
        Due.due("15 3", x.where(3, 1, 0), Due.BEYOND);
        Due.due("15 -1", x.where(-1, 1, 0), Due.BEYOND);
        int[] whats = {-1, 0, 2, 4, 5};
        for (int what : whats) {
            Due.due("15 what " + what, x.where(0, what, 0), Due.BEYOND);
        }
    }

    private static void corn() {
        GateManners x = Due.farm("mean;beasts 0 100;open 0");
        Due.due("16 now", x.corn(0, 100), 0);
        Due.due("16 0 of none", x.corn(8, 0), 0);
        Due.due("16 the mean one shuts first", x.corn(1, 1), Due.NONE);
        x = Due.farm("beasts 0 100;open 0");
        Due.due("16 first hour", x.corn(1, 25), 1);
        // 25, then 12 more (75 - 25 = 50).
        Due.due("16 second hour", x.corn(1, 26), 2);
        Due.due("16 second hour", x.corn(1, 37), 2);
        Due.due("16 third", x.corn(1, 38), 3);
        Due.due("16 never", x.corn(1, 51), Due.NONE);
        Due.due("16 v 9999", x.corn(0, 9999), Due.NONE);
        Due.due("16 v 10000", x.corn(0, 10000), Due.BEYOND);
        Due.due("16 v -1", x.corn(0, -1), Due.BEYOND);
        Due.due("16 9", x.corn(9, 0), Due.BEYOND);
        Due.due("16 -1", x.corn(-1, 0), Due.BEYOND);
        Due.due("16 nothing changes", x.field(0, 0) + x.now(0), 100);
        cornAtTheLastHour();
    }

    /** Beasts come to the far field ever so slowly: more in each of the hours about the 100th. */
    private static void cornAtTheLastHour() {
        String text = "beasts 0 9999;ajar 0;ajar 1;ajar 2;ajar 3;ajar 4;ajar 5;ajar 6;ajar 7";
        GateManners x = Due.farm(text);
        int at99 = x.ahead(6, 99);
        int at100 = x.ahead(6, 100);
        GateManners later = Due.farm(text);
        later.go(1);
        int at101 = later.ahead(6, 100);
        Due.due("16 more and more", at99 < at100 && at100 < at101 ? 1 : 0, 1);
        Due.due("16 100", x.corn(6, at100), 100);
        Due.due("16 101", x.corn(6, at101), Due.NONE);
        Due.due("16 100 of the later one", later.corn(6, at101), 100);
    }

    private static void when() {
        GateManners x = Due.farm("postman;mean in 8 back");
        Due.due("17 now", x.when(7, 0), 0);
        Due.due("17 1", x.when(0, 3), 1);
        Due.due("17 4", x.when(7, 3), 4);
        Due.due("17 never", x.when(0, 1), Due.NONE);
        Due.due("17 s 4", x.when(0, 4), Due.BEYOND);
        Due.due("17 s -1", x.when(0, -1), Due.BEYOND);
        Due.due("17 8", x.when(8, 0), Due.BEYOND);
        Due.due("17 -1", x.when(-1, 0), Due.BEYOND);
        Due.due("17 nothing changes", x.now(3) + x.now(0), 0);
        x = Due.farm("child mood 0;ajar 0");
        Due.due("17 a child of mood 0 stays", x.when(0, 0), Due.NONE);
    }

    /** On this farm gate 2 is open for the first time behind 108 hours. */
    private static void whenAtTheLastHour() {
        String text = "dog in 1 back mood 0;daughter;mean in 1;mean";
        GateManners x = Due.farm(text);
        for (int n = 0; n < 108; n++) {
            Due.due("17 not open behind " + n, x.stands(2) == 2 ? 1 : 0, 0);
            x.go(1);
        }
        Due.due("17 open behind 108", x.stands(2), 2);
        int[][] rows = {{7, (int) Due.NONE}, {8, 100}, {9, 99}, {57, 51}};
        for (int[] row : rows) {
            x = Due.farm(text);
            x.go(row[0]);
            Due.due("17 behind " + row[0], x.when(2, 2), row[1]);
        }
    }

    /** On this farm walkers 0 and 4 meet for the first time behind 108 hours. */
    private static void meetAtTheLastHour() {
        String text = "dog in 7 mood 0;child mood 7;dog;dog in 8;mean in 5;wind 5";
        GateManners x = Due.farm(text);
        for (int n = 0; n < 108; n++) {
            Due.due("18 not yet behind " + n, x.of(0, 1) == x.of(4, 1) ? 1 : 0, 0);
            x.go(1);
        }
        Due.due("18 they meet behind 108", x.of(0, 1) - x.of(4, 1), 0);
        int[][] rows = {{7, (int) Due.NONE}, {8, 100}, {9, 99}, {58, 50}};
        for (int[] row : rows) {
            x = Due.farm(text);
            x.go(row[0]);
            Due.due("18 behind " + row[0], x.meet(0, 4), row[1]);
            Due.due("18 behind " + row[0] + ", the other way round", x.meet(4, 0), row[1]);
        }
    }

    private static void meet() {
        GateManners x = Due.farm("walker;walker in 8 back;walker in 3;child in 5 mood 0;walker in 1");
        Due.due("18 4", x.meet(0, 1), 4);
        Due.due("18 the other way round", x.meet(1, 0), 4);
        Due.due("18 5", x.meet(0, 3), 5);
        Due.due("18 not the first again", x.meet(2, 3), 2);
        x.change(2, 1, 0);
        Due.due("18 now", x.meet(0, 2), 0);
        x = Due.farm("child mood 0;child in 1 mood 0");
        Due.due("18 never", x.meet(0, 1), Due.NONE);
        Due.due("18 itself", x.meet(0, 0), Due.BEYOND);
        Due.due("18 none", x.meet(0, 2), Due.BEYOND);
        Due.due("18 none", x.meet(2, 0), Due.BEYOND);
        Due.due("18 -1", x.meet(-1, 0), Due.BEYOND);
        Due.due("18 -1", x.meet(0, -1), Due.BEYOND);
        // In 8 and 7 behind an hour; then the first one turns in 8, and the other one comes.
        x = Due.farm("walker in 7;walker in 6");
        Due.due("18 while it turns", x.meet(0, 1), 2);
    }
}
