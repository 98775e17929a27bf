/** Promises 41 to 45: images, counts, status. */
public final class ImageTest {
    public static void main(String[] args) {
        imageAndUndo();
        whatAnImageDoesNotKeep();
        theLatestStays();
        tear();
        count();
        status();
        findingsChangeNothing();
        anImageOfNothing();
        allThatAnImageKeeps();
        countsAtTheirGreatest();
        everyFindingIsCounted();
        Due.end();
    }

    private static GateManners full() {
        GateManners x = Due.farm("dog in 2 back mood 7;beasts 3 33;wind 2;ajar 5");
        x.change(0, 4, 44);
        x.hold(6, 0);
        x.seed(99);
        x.go(2);
        return x;
    }

    private static void imageAndUndo() {
        GateManners x = full();
        int[] before = new int[8];
        Due.due("41 kept", x.image(), 1);
        for (int i = 0; i < 8; i++) {
            before[i] = x.count(i);
        }
        int stood = x.now(3);
        int field = x.of(0, 1);
        int mood = x.of(0, 3);
        int way = x.of(0, 2);
        x.walker(3, 3);
        x.hold(1, 1);
        x.hold(6, 1);
        x.change(0, 0, 5);
        x.gales(9);
        x.beasts(3, 1);
        x.beasts(8, 1);
        Due.due("42 hour", x.undo(), 2);
        for (int i = 0; i < 8; i++) {
            Due.due("42 count " + i, x.count(i), before[i]);
        }
        Due.due("42 gates", x.now(3), stood);
        Due.due("42 field", x.of(0, 1), field);
        Due.due("42 mood", x.of(0, 3), mood);
        Due.due("42 way", x.of(0, 2), way);
        Due.due("42 kind", x.of(0, 0), 2);
        Due.due("42 beasts", x.field(3, 0), 33);
        Due.due("42 wind", x.wind(5), 2);
        Due.due("42 spot", x.as(6, 2), 0);
        Due.due("42 spot", x.as(1, 0), Due.MISSING);
        Due.due("42 no walker 1", x.of(1, 0), Due.BEYOND);
        Due.due("42 a new one is as at first", x.walker(6, 1), 1);
        Due.due("42 a new one is as at first", x.of(1, 3), 3);
    }

    private static void whatAnImageDoesNotKeep() {
        GateManners x = full();
        x.feed('w', 1);
        Due.fill(x, 0, 8, 9);
        x.image();
        x.feed('x', 1);
        x.write(0, 0, 7);
        x.sheet(1, 8, 3);
        x.of(9, 9);
        x.undo();
        Due.due("41 tape", x.count(5), 2);
        Due.due("41 sheet", x.load(0), 2);
        Due.due("41 sheet", x.field(0, 0), 7);
        Due.due("41 sheet", x.write(1, 2, 0), 1);
        Due.due("45 undo takes none back", x.status(0), 1);
    }

    private static void theLatestStays() {
        GateManners x = new GateManners();
        Due.due("42 none", x.undo(), Due.NONE);
        x.wind(1);
        x.image();
        x.wind(2);
        x.image();
        x.wind(3);
        x.undo();
        Due.due("42 latest", x.wind(4), 2);
        x.undo();
        Due.due("42 which stays", x.wind(5), 2);
    }

    private static void tear() {
        GateManners x = new GateManners();
        Due.due("43 nothing", x.tear(), 0);
        x.image();
        x.wind(7);
        x.image();
        Due.due("43 something", x.tear(), 1);
        Due.due("43 nothing then", x.undo(), Due.NONE);
        Due.due("43 nothing then", x.tear(), 0);
        Due.due("43 all else stays", x.wind(0), 7);
        x.image();
        Due.due("43 again", x.undo(), 0);
    }

    private static void count() {
        GateManners x = Due.farm("dog;dog;mean;beasts 1 9999;beasts 2 9999;propped 3;ajar 4;ajar 6;ajar 0");
        x.change(0, 4, 9000);
        x.change(1, 4, 9001);
        x.seed(-5);
        x.hold(0, 0);
        x.hold(1, 0);
        x.feed(0, 4);
        int[] due = {0, 3, 4, 19998, 18001, 4, -5, 2};
        for (int what = 0; what < 8; what++) {
            Due.due("44 what " + what, x.count(what), due[what]);
        }
        x.go(5);
        Due.due("44 hour", x.count(0), 5);
        Due.due("44 8", x.count(8), Due.BEYOND);
        Due.due("44 -1", x.count(-1), Due.BEYOND);
        for (int far : Due.FAR) {
            Due.due("44 far", x.count(far), Due.BEYOND);
        }
    }

    private static void status() {
        GateManners x = new GateManners();
        x.beasts(9, 9);
        x.beasts(9, 9);
        for (int i = 0; i < 9; i++) {
            x.walker(0, 0);
        }
        x.hold(0, 0);
        for (int i = 0; i < 3; i++) {
            x.as(0, 1);
        }
        x.undo();
        x.who(0);
        x.sheet(0, 8, -1);
        x.sheet(0, 8, -1);
        int[] due = {2, 1, 3, 1, 0, 1, 2};
        for (int which = 0; which < 7; which++) {
            Due.due("45 which " + which, x.status(which), due[which]);
        }
        Due.due("45 all", x.status(-1), 10);
        Due.due("45 7", x.status(7), Due.BEYOND);
        Due.due("45 -2", x.status(-2), Due.BEYOND);
        Due.due("45 counted from then on", x.status(0), 4);
        Due.due("45 all", x.status(-1), 12);
        for (int far : Due.FAR) {
            Due.due("45 far", x.status(far), Due.BEYOND);
        }
        Due.due("45 all", x.status(-1), 12 + Due.FAR.length);
    }

    /** An image of a new object: undo() takes all back to it, and once more. */
    private static void anImageOfNothing() {
        GateManners x = new GateManners();
        Due.due("41 of nothing", x.image(), 1);
        for (int round = 0; round < 2; round++) {
            Due.textOf(x, "dog in 3 mood 8;mean;beasts 4 7;ajar 3;wind 9");
            x.hold(3, 1);
            x.seed(8);
            x.go(7);
            Due.due("42 hour 0", x.undo(), 0);
            for (int what = 0; what < 8; what++) {
                Due.due("42 count " + what, x.count(what), what == 6 ? 1 : 0);
            }
            Due.due("42 wind", x.wind(0), 0);
            Due.due("42 no walkers", x.of(0, 0), Due.BEYOND);
            Due.due("42 nothing held", x.as(3, 0), Due.MISSING);
            Due.due("42 a new one is the first", x.walker(1, 1), 0);
            Due.due("42 of way 0", x.of(0, 2), 0);
            Due.due("42 of mood 3", x.of(0, 3), 3);
            Due.due("42 that passed none", x.of(0, 4), 0);
        }
    }

    /** Each thing by itself: kept, changed, and back. */
    private static void allThatAnImageKeeps() {
        GateManners x = Due.farm("daughter in 5 back mood 2");
        int[] parts = {6, 5, 1, 2, 0};
        int[] others = {0, 8, 0, 9, 9999};
        x.image();
        for (int what = 0; what < 5; what++) {
            x.change(0, what, others[what]);
            x.undo();
            Due.due("41 what " + what, x.of(0, what), parts[what]);
        }
        for (int field = 0; field < 9; field++) {
            x.beasts(field, 9999);
            x.undo();
            Due.due("41 field " + field, x.field(field, 0), 0);
        }
        for (int gate = 0; gate < 8; gate++) {
            x.gate(gate, 3);
            x.undo();
            Due.due("41 gate " + gate, x.stands(gate), 0);
        }
        for (int spot = 0; spot < 10; spot++) {
            x.hold(spot, 0);
            x.undo();
            Due.due("41 spot " + spot, x.as(spot, 0), Due.MISSING);
        }
        x.wind(9);
        x.undo();
        Due.due("41 wind", x.wind(0), 0);
        x.seed(-1);
        x.undo();
        Due.due("41 z", x.count(6), 1);
        x.walker(0, 0);
        x.undo();
        Due.due("41 walkers", x.count(1), 1);
        x.go(60);
        Due.due("41 hour", x.undo(), 0);
        // What is kept does not change with what is so.
        x.image();
        x.image();
        x.go(1);
        x.undo();
        Due.due("42 stays as it was kept", x.of(0, 1), 5);
    }

    private static void countsAtTheirGreatest() {
        GateManners x = new GateManners();
        for (int i = 0; i < 8; i++) {
            x.walker(0, 0);
            x.change(i, 4, 9999);
            x.gate(i, 1 + i % 3);
        }
        for (int field = 0; field < 9; field++) {
            x.beasts(field, 9999);
        }
        for (int spot = 0; spot < 10; spot++) {
            x.hold(spot, 7);
        }
        for (int i = 0; i < 30; i++) {
            x.feed(0, 4);
        }
        x.seed(Integer.MIN_VALUE);
        int[] due = {0, 8, 8, 89991, 79992, 120, Integer.MIN_VALUE, 10};
        for (int what = 0; what < 8; what++) {
            Due.due("44 the greatest, what " + what, x.count(what), due[what]);
        }
    }

    /** BEYOND to SIZE, each counted apart; undo(), tear() and text() take none back. */
    private static void everyFindingIsCounted() {
        GateManners x = new GateManners();
        x.image();
        for (int i = 0; i < 8; i++) {
            x.walker(0, 0);
        }
        x.hold(0, 0);
        int[] due = new int[7];
        for (int round = 1; round <= 20; round++) {
            x.wind(10);
            x.walker(0, 0);
            x.as(0, 1);
            x.corn(0, 1);
            x.load(0);
            x.sheet(0, 8, -1);
            for (int which = 0; which < 7; which++) {
                due[which] += which == 4 ? 0 : 1;
                Due.due("45 which " + which, x.status(which), due[which]);
            }
            Due.due("45 all", x.status(-1), 6 * round);
        }
        x.undo();
        x.tear();
        Due.due("33 no finding", Due.textOf(x, "cow"), -1);
        Due.due("45 none taken back", x.status(-1), 120);
        Due.due("45 a wrong one is counted from then on", x.status(7), Due.BEYOND);
        Due.due("45 a wrong one is counted from then on", x.status(0), 21);
        Due.due("45 all", x.status(-1), 121);
    }

    private static void findingsChangeNothing() {
        GateManners x = full();
        int[] before = new int[8];
        for (int i = 0; i < 8; i++) {
            before[i] = x.count(i);
        }
        int stood = x.now(3);
        x.gales(21);
        x.go(61);
        x.walker(7, 0);
        x.gate(0, 4);
        x.change(0, 3, 10);
        x.feed(0, 5);
        x.hold(6, 1);
        x.meet(0, 0);
        x.corn(8, 9999);
        x.windFor(3, 0, 1);
        x.home(3, 0, 1);
        for (int i = 0; i < 8; i++) {
            Due.due("findings change nothing, count " + i, x.count(i), before[i]);
        }
        Due.due("findings change nothing", x.now(3), stood);
        Due.due("findings are counted", x.status(-1), 11);
        Due.due("findings are counted", x.status(3), 3);
    }
}
