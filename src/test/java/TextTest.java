/** Promises 31 to 33: the tape and texts. */
public final class TextTest {
    public static void main(String[] args) {
        feed();
        wipe();
        texts();
        faults();
        tooManyWalkers();
        nothingChangesWithAFault();
        Due.end();
    }

    private static void feed() {
        GateManners x = new GateManners();
        Due.due("31 n 0", x.feed(1, 0), Due.BEYOND);
        Due.due("31 n 5", x.feed(1, 5), Due.BEYOND);
        Due.due("31 n -1", x.feed(1, -1), Due.BEYOND);
        Due.due("31 n far", x.feed(1, Integer.MIN_VALUE), Due.BEYOND);
        // "wind" and "xx 7": of the second the two lowest bytes alone.
        Due.due("31 4", x.feed(0x77696e64, 4), 4);
        Due.due("31 2", x.feed(0x78782037, 2), 6);
        Due.due("31 read", x.text(), 1);
        Due.due("31 so", x.wind(0), 7);
        Due.due("31 three", x.feed(0x646f67, 3), 3);
        Due.due("31 read", x.text(), 1);
        for (int i = 1; i <= 29; i++) {
            Due.due("31 fills", x.feed(-1, 4), 4 * i);
        }
        Due.due("31 119", x.feed(-1, 3), 119);
        Due.due("31 full", x.feed(-1, 2), Due.FULL);
        Due.due("31 BEYOND ahead of FULL", x.feed(-1, 5), Due.BEYOND);
        Due.due("31 120", x.feed(-1, 1), 120);
        Due.due("31 full", x.feed(-1, 1), Due.FULL);
        Due.due("31 count", x.count(5), 120);
        Due.due("31 bytes above 127 begin no token", x.text(), -1);
    }

    private static void wipe() {
        GateManners x = new GateManners();
        x.feed(0x646f67, 3);
        Due.due("32 had", x.wipe(), 3);
        Due.due("32 empty", x.wipe(), 0);
        x.feed(0x646f67, 3);
        Due.due("32 from its begin on", x.text(), 1);
        Due.due("33 empty then", x.wipe(), 0);
        Due.due("33 fault", Due.textOf(x, "cow"), -1);
        Due.due("33 empty then, too", x.wipe(), 0);
    }

    private static void texts() {
        GateManners x = new GateManners();
        Due.due("33 all", Due.textOf(x, "walker;postman in 8;dog back;child mood 9;stranger in 2 mood 0"), 5);
        Due.due("33 all", Due.textOf(x, "mean in 1 back;daughter in 3back mood 4"), 2);
        Due.due("33 in 0", Due.textOf(new GateManners(), "mean in 0 mood 0"), 1);
        int[][] due = {{0, 0, 0, 3}, {1, 8, 0, 3}, {2, 0, 1, 3}, {3, 0, 0, 9}, {4, 2, 0, 0}, {5, 1, 1, 3}, {6, 3, 1, 4}};
        for (int walker = 0; walker < due.length; walker++) {
            for (int what = 0; what < 4; what++) {
                Due.due("33 walker " + walker + " what " + what, x.of(walker, what), due[walker][what]);
            }
        }
        Due.due("33 gates", Due.textOf(x, "ajar 0;open 1;propped 7;propped 2;shut 2"), 5);
        Due.due("33 stand", x.now(3), 1 + 2 * 4 + 3 * 16384);
        Due.due("33 beasts", Due.textOf(x, "beasts 0 1;beasts 8 9999;beasts 0 0007;wind 9"), 4);
        Due.due("33 item by item", x.field(0, 0), 7);
        Due.due("33 beasts", x.field(8, 0), 9999);
        Due.due("33 wind", x.wind(0), 9);
        Due.due("33 blanks", Due.textOf(x, "  open3 ;beasts2 5  "), 2);
        Due.due("33 blanks", x.stands(3) + x.field(2, 0), 7);
        Due.due("33 no blank needed", Due.textOf(x, "wind5;ajar7"), 2);
        Due.due("33 many zeros", Due.textOf(x, "wind 000000000000000000000008"), 1);
        Due.due("33 many zeros", x.wind(0), 8);
        Due.due("33 0", Due.textOf(x, "wind 0;beasts 0 0;open 0"), 3);
        Due.due("33 0", x.wind(1) + x.field(0, 0) + x.stands(0), 2);
        Due.due("33 one ITEM", Due.textOf(x, "daughter"), 1);
        Due.due("33 the last one", x.count(1), 8);
        Due.due("33 no finding", x.status(-1), 0);
    }

    private static void fault(String text, int place) {
        GateManners x = new GateManners();
        Due.due("33 fault of \"" + text + "\"", Due.textOf(x, text), -1 - place);
        Due.due("33 no finding", x.status(-1), 0);
        Due.due("33 tape", x.count(5), 0);
    }

    private static void faults() {
        fault("", 0);
        fault("   ", 3);
        fault(";", 0);
        fault(" cow", 1);
        fault("7", 0);
        fault("Dog", 0);
        fault("dOg", 0);
        fault("dog O", 4);
        fault("dogdog", 0);
        fault("strangers", 0);
        fault("strange", 0);
        fault("do", 0);
        fault("dogz", 0);
        fault("adog", 0);
        fault("dog dog", 4);
        fault("dog 5", 4);
        fault("dog5", 3);
        fault("dog in", 6);
        fault("dog in ", 7);
        fault("dog in in 3", 7);
        fault("dog in ;", 7);
        fault("dog in 9", 7);
        fault("dog in 3 in 3", 9);
        fault("dog back in 3", 9);
        fault("dog back back", 9);
        fault("dog mood", 8);
        fault("dog mood 10", 9);
        fault("dog mood 3 back", 11);
        fault("dog mood 3 4", 11);
        fault("in 3", 0);
        fault("back", 0);
        fault("mood 3", 0);
        fault("shut", 4);
        fault("shut 8", 5);
        fault("shut ajar", 5);
        fault("propped 1 2", 10);
        fault("beasts", 6);
        fault("beasts 9 1", 7);
        fault("beasts 8", 8);
        fault("beasts 8 10000", 9);
        fault("beasts 8 4294967297", 9);
        fault("beasts 8 1;", 11);
        fault("beasts 8 1 1", 11);
        fault("wind 10", 5);
        fault("wind", 4);
        fault("wind -1", 5);
        fault("wind 1;;wind 2", 7);
        fault("wind 1; ", 8);
        fault("wind 1\nwind", 6);
        fault("wind\t1", 4);
        fault("wind 1,", 6);
        fault("wind 4294967301", 5);
        fault("wind 18446744073709551617", 5);
        fault("wind {", 5);
        fault("wind `", 5);
        fault("wind :", 5);
        fault("wind /", 5);
        fault("wind x #", 5);
    }

    private static void tooManyWalkers() {
        GateManners x = new GateManners();
        for (int i = 0; i < 6; i++) {
            x.walker(0, 0);
        }
        Due.due("33 a 9th", Due.textOf(x, "dog;wind 3;dog;dog in 99"), -1 - 15);
        Due.due("33 none came", x.count(1), 6);
        Due.due("33 8", Due.textOf(x, "dog;wind 3;dog"), 3);
        Due.due("33 9th at once", Due.textOf(x, " dog"), -2);
        Due.due("33 an earlier fault", Due.textOf(x, "wind x;dog"), -6);
        Due.due("33 others go on", Due.textOf(x, "wind 4;open 3"), 2);
    }

    private static void nothingChangesWithAFault() {
        GateManners x = Due.farm("dog in 3;beasts 4 44;wind 4;ajar 4");
        Due.due("33 late fault", Due.textOf(x, "dog;beasts 4 1;wind 2;open 4;mean back 3"), -1 - 39);
        Due.due("33 walkers", x.count(1), 1);
        Due.due("33 beasts", x.field(4, 0), 44);
        Due.due("33 gate", x.stands(4), 1);
        Due.due("33 wind", x.wind(0), 4);
        Due.due("33 reads on", Due.textOf(x, "mean in 2"), 1);
        Due.due("33 the next one", x.of(1, 0), 5);
        Due.due("33 as at first", x.of(1, 2), 0);
    }
}
