/** Promises 1 to 10: a new object, fields, gates, wind, walkers. */
public final class FarmTest {
    public static void main(String[] args) {
        aNewObject();
        beasts();
        field();
        gatesAndStands();
        wind();
        walker();
        of();
        change();
        leavesByKind();
        feelsByKind();
        leavesWrapsAround();
        feelsNoMoreThan9AndNoLessThan0();
        goesFromMood5On();
        windFrom5On();
        setsHaveAllTheirBits();
        leavesWrong();
        Due.end();
    }

    private static void aNewObject() {
        GateManners x = new GateManners();
        for (int i = 0; i < 9; i++) {
            Due.due("1 field " + i, x.field(i, 0), 0);
            Due.due("1 walkers in " + i, x.field(i, 1), 0);
        }
        for (int i = 0; i < 8; i++) {
            Due.due("1 stands " + i, x.stands(i), 0);
            Due.due("1 count " + i, x.count(i), i == 6 ? 1 : 0);
        }
        for (int i = -1; i < 7; i++) {
            Due.due("1 status " + i, x.status(i), 0);
        }
        Due.due("1 wind", x.wind(0), 0);
        Due.due("1 seed", x.seed(1), 1);
        Due.due("1 of", x.of(0, 0), Due.BEYOND);
        Due.due("1 undo", x.undo(), Due.NONE);
        Due.due("1 tear", x.tear(), 0);
        Due.due("1 wipe", x.wipe(), 0);
        for (int s = 0; s < 4; s++) {
            Due.due("1 load " + s, x.load(s), Due.MISSING);
        }
        for (int spot = 0; spot < 10; spot++) {
            Due.due("1 as " + spot, x.as(spot, 0), Due.MISSING);
        }
        new GateManners().beasts(0, 7);
        Due.due("1 objects share nothing", new GateManners().field(0, 0), 0);
    }

    private static void beasts() {
        GateManners x = new GateManners();
        Due.due("2 first", x.beasts(0, 9999), 0);
        Due.due("2 last", x.beasts(8, 5), 0);
        Due.due("2 again", x.beasts(0, 0), 9999);
        Due.due("2 other", x.field(8, 0), 5);
        Due.due("2 -1", x.beasts(-1, 0), Due.BEYOND);
        Due.due("2 9", x.beasts(9, 0), Due.BEYOND);
        Due.due("2 v -1", x.beasts(8, -1), Due.BEYOND);
        Due.due("2 v 10000", x.beasts(8, 10000), Due.BEYOND);
        for (int far : Due.FAR) {
            Due.due("2 far", x.beasts(far, 1), Due.BEYOND);
        }
        Due.due("2 unchanged", x.beasts(8, 6), 5);
    }

    private static void field() {
        GateManners x = Due.farm("dog in 8;mean;child in 8;beasts 8 12");
        Due.due("3 beasts", x.field(8, 0), 12);
        Due.due("3 walkers", x.field(8, 1), 0b101);
        Due.due("3 walkers", x.field(0, 1), 0b010);
        Due.due("3 none", x.field(1, 1), 0);
        Due.due("3 what 2", x.field(0, 2), Due.BEYOND);
        Due.due("3 what -1", x.field(0, -1), Due.BEYOND);
        Due.due("3 9", x.field(9, 0), Due.BEYOND);
        Due.due("3 -1", x.field(-1, 1), Due.BEYOND);
        for (int far : Due.FAR) {
            Due.due("3 far", x.field(far, 0), Due.BEYOND);
        }
    }

    private static void gatesAndStands() {
        GateManners x = new GateManners();
        Due.due("4 first", x.gate(0, 3), 0);
        Due.due("4 last", x.gate(7, 1), 0);
        Due.due("4 again", x.gate(0, 2), 3);
        Due.due("5 0", x.stands(0), 2);
        Due.due("5 7", x.stands(7), 1);
        Due.due("5 1", x.stands(1), 0);
        Due.due("4 -1", x.gate(-1, 0), Due.BEYOND);
        Due.due("4 8", x.gate(8, 0), Due.BEYOND);
        Due.due("4 v 4", x.gate(7, 4), Due.BEYOND);
        Due.due("4 v -1", x.gate(7, -1), Due.BEYOND);
        Due.due("5 -1", x.stands(-1), Due.BEYOND);
        Due.due("5 8", x.stands(8), Due.BEYOND);
        for (int far : Due.FAR) {
            Due.due("4 far", x.gate(far, 0), Due.BEYOND);
            Due.due("5 far", x.stands(far), Due.BEYOND);
        }
        Due.due("4 unchanged", x.stands(7), 1);
    }

    private static void wind() {
        GateManners x = new GateManners();
        Due.due("6 first", x.wind(9), 0);
        Due.due("6 -1", x.wind(-1), Due.BEYOND);
        Due.due("6 10", x.wind(10), Due.BEYOND);
        for (int far : Due.FAR) {
            Due.due("6 far", x.wind(far), Due.BEYOND);
        }
        Due.due("6 again", x.wind(0), 9);
    }

    private static void walker() {
        GateManners x = new GateManners();
        Due.due("7 kind 7", x.walker(7, 0), Due.BEYOND);
        Due.due("7 kind -1", x.walker(-1, 0), Due.BEYOND);
        Due.due("7 field 9", x.walker(0, 9), Due.BEYOND);
        Due.due("7 field -1", x.walker(0, -1), Due.BEYOND);
        for (int far : Due.FAR) {
            Due.due("7 far kind", x.walker(far, 0), Due.BEYOND);
            Due.due("7 far field", x.walker(0, far), Due.BEYOND);
        }
        for (int i = 0; i < 8; i++) {
            Due.due("7 number", x.walker(i % 7, 8 - i), i);
        }
        Due.due("7 BEYOND ahead of FULL", x.walker(7, 0), Due.BEYOND);
        Due.due("7 full", x.walker(0, 0), Due.FULL);
        Due.due("7 count", x.count(1), 8);
        int[] first = {3, 5, 0, 3, 0, 0};
        for (int what = 0; what < 6; what++) {
            Due.due("7 as at first, " + what, x.of(3, what), first[what]);
        }
    }

    private static void of() {
        GateManners x = Due.farm("mean in 4 back mood 8");
        Due.due("9 passed", x.change(0, 4, 77), 0);
        int[] due = {5, 4, 1, 8, 77, 1};
        for (int what = 0; what < 6; what++) {
            Due.due("8 what " + what, x.of(0, what), due[what]);
        }
        Due.due("8 what 6", x.of(0, 6), Due.BEYOND);
        Due.due("8 what -1", x.of(0, -1), Due.BEYOND);
        Due.due("8 walker 1", x.of(1, 0), Due.BEYOND);
        Due.due("8 walker -1", x.of(-1, 0), Due.BEYOND);
        for (int far : Due.FAR) {
            Due.due("8 far", x.of(far, 0), Due.BEYOND);
        }
        int[] calm = {1, 2, 1, 0, 0, 1, 2};
        int[] gay = {1, 2, 3, 2, 2, 1, 2};
        for (int kind = 0; kind < 7; kind++) {
            x.change(0, 0, kind);
            x.change(0, 3, 4);
            Due.due("8 goes, kind " + kind + " mood 4", x.of(0, 5), calm[kind]);
            x.change(0, 3, 5);
            Due.due("8 goes, kind " + kind + " mood 5", x.of(0, 5), gay[kind]);
        }
    }

    private static void change() {
        GateManners x = new GateManners();
        Due.due("9 no walker", x.change(0, 0, 0), Due.BEYOND);
        x.walker(2, 1);
        int[] most = {6, 8, 1, 9, 9999};
        int[] first = {2, 1, 0, 3, 0};
        for (int what = 0; what < 5; what++) {
            Due.due("9 below " + what, x.change(0, what, -1), Due.BEYOND);
            Due.due("9 above " + what, x.change(0, what, most[what] + 1), Due.BEYOND);
            Due.due("9 was " + what, x.change(0, what, most[what]), first[what]);
            Due.due("9 is " + what, x.of(0, what), most[what]);
            Due.due("9 to 0 " + what, x.change(0, what, 0), most[what]);
        }
        Due.due("9 what 5", x.change(0, 5, 0), Due.BEYOND);
        Due.due("9 what -1", x.change(0, -1, 0), Due.BEYOND);
        for (int far : Due.FAR) {
            Due.due("9 far walker", x.change(far, 0, 0), Due.BEYOND);
            Due.due("9 far what", x.change(0, far, 0), Due.BEYOND);
        }
    }

    /** Rows: kinds; columns: how the gate stands. */
    private static void leavesByKind() {
        int[][] calm = {{0, 1, 2, 3}, {3, 3, 3, 3}, {0, 2, 2, 3}, {3, 1, 1, 2}, {0, 2, 2, 1}, {0, 0, 0, 0}, {1, 3, 3, 3}};
        int[][] windy = {{0, 0, 0, 0}, {3, 3, 3, 3}, {0, 0, 0, 0}, {3, 3, 3, 3}, {0, 0, 0, 0}, {0, 0, 0, 0}, {1, 3, 3, 3}};
        GateManners x = new GateManners();
        x.walker(0, 0);
        for (int kind = 0; kind < 7; kind++) {
            x.change(0, 0, kind);
            for (int s = 0; s < 4; s++) {
                x.wind(4);
                Due.due("10 kind " + kind + " leaves " + s, x.leaves(0, s, 0), calm[kind][s]);
                x.wind(5);
                Due.due("10 kind " + kind + " leaves in wind " + s, x.leaves(0, s, 0), windy[kind][s]);
            }
        }
    }

    private static void feelsByKind() {
        int[][] at3 = {{3, 3, 3, 3}, {9, 9, 9, 9}, {3, 4, 5, 6}, {4, 5, 6, 7}, {2, 2, 3, 3}, {2, 2, 2, 2}, {9, 8, 7, 6}};
        int[][] at8 = {{8, 8, 8, 8}, {9, 9, 9, 9}, {8, 9, 9, 9}, {9, 9, 9, 9}, {4, 4, 4, 4}, {7, 7, 7, 7}, {9, 8, 7, 6}};
        GateManners x = new GateManners();
        x.walker(0, 0);
        for (int kind = 0; kind < 7; kind++) {
            x.change(0, 0, kind);
            for (int s = 0; s < 4; s++) {
                x.change(0, 3, 3);
                Due.due("10 kind " + kind + " mood 3 feels " + s, x.leaves(0, s, 1), at3[kind][s]);
                x.change(0, 3, 8);
                Due.due("10 kind " + kind + " mood 8 feels " + s, x.leaves(0, s, 1), at8[kind][s]);
            }
        }
        x.change(0, 0, 5);
        x.change(0, 3, 0);
        Due.due("10 mean, 0 at least", x.leaves(0, 0, 1), 0);
    }

    /** As a dog, and the mood, together modulo 4; the stranger 3 less that. Rows: how the gate stands. */
    private static void leavesWrapsAround() {
        int[][] child = {{0, 1, 2, 3, 0, 1, 2, 3, 0, 1}, {2, 3, 0, 1, 2, 3, 0, 1, 2, 3}, {2, 3, 0, 1, 2, 3, 0, 1, 2, 3},
            {3, 0, 1, 2, 3, 0, 1, 2, 3, 0}};
        GateManners x = Due.farm("child;stranger");
        for (int mood = 0; mood <= 9; mood++) {
            x.change(0, 3, mood);
            x.change(1, 3, mood);
            for (int s = 0; s < 4; s++) {
                Due.due("10 a child of mood " + mood + " leaves " + s, x.leaves(0, s, 0), child[s][mood]);
                Due.due("10 a stranger of mood " + mood + " leaves " + s, x.leaves(1, s, 0), 3 - child[s][mood]);
            }
        }
        x.wind(9);
        x.change(0, 3, 9);
        x.change(1, 3, 9);
        Due.due("10 a child in wind: 0 and 9 modulo 4", x.leaves(0, 3, 0), 1);
        Due.due("10 a stranger in wind: 3 less 1", x.leaves(1, 3, 0), 2);
    }

    private static void feels(int kind, int mood, int s, int due) {
        GateManners x = new GateManners();
        x.walker(kind, 0);
        x.change(0, 3, mood);
        Due.due("10 kind " + kind + " of mood " + mood + " feels by " + s, x.leaves(0, s, 1), due);
    }

    private static void feelsNoMoreThan9AndNoLessThan0() {
        feels(0, 0, 3, 0);
        feels(0, 9, 3, 9);
        feels(1, 0, 0, 9);
        feels(1, 9, 3, 9);
        feels(2, 5, 3, 8);
        feels(2, 6, 3, 9);
        feels(2, 7, 3, 9);
        feels(2, 9, 3, 9);
        feels(2, 8, 1, 9);
        feels(2, 9, 0, 9);
        feels(2, 0, 0, 0);
        feels(3, 4, 3, 8);
        feels(3, 5, 3, 9);
        feels(3, 6, 3, 9);
        feels(3, 9, 3, 9);
        feels(3, 7, 0, 8);
        feels(3, 8, 0, 9);
        feels(3, 9, 0, 9);
        feels(3, 0, 0, 1);
        // The half is cut: of 1, 2, 3, 8, 9, and never of 10.
        feels(4, 0, 0, 0);
        feels(4, 1, 0, 1);
        feels(4, 2, 0, 1);
        feels(4, 7, 0, 4);
        feels(4, 8, 0, 4);
        feels(4, 9, 0, 4);
        feels(4, 9, 3, 4);
        feels(5, 9, 3, 8);
        feels(5, 2, 0, 1);
        feels(5, 1, 0, 0);
        feels(5, 0, 0, 0);
        feels(5, 0, 3, 0);
        feels(6, 0, 0, 9);
        feels(6, 9, 3, 6);
        feels(6, 0, 3, 6);
    }

    private static void goesFromMood5On() {
        int[] kinds = {2, 3, 4};
        for (int kind : kinds) {
            int less = kind == 2 ? 0 : 1;
            for (int mood = 0; mood <= 9; mood++) {
                GateManners x = new GateManners();
                x.walker(kind, 0);
                x.change(0, 3, mood);
                Due.due("8 kind " + kind + " of mood " + mood + " goes", x.of(0, 5), (mood < 5 ? 1 : 3) - less);
            }
        }
    }

    private static void windFrom5On() {
        GateManners x = Due.farm("walker;dog");
        for (int wind = 0; wind <= 9; wind++) {
            x.wind(wind);
            for (int s = 0; s < 4; s++) {
                Due.due("10 a walker in wind " + wind + " leaves " + s, x.leaves(0, s, 0), wind < 5 ? s : 0);
                Due.due("10 a dog in wind " + wind + " leaves " + s, x.leaves(1, s, 0), wind >= 5 ? 0 : s == 1 ? 2 : s);
            }
        }
    }

    private static void setsHaveAllTheirBits() {
        GateManners x = new GateManners();
        for (int i = 0; i < 8; i++) {
            x.walker(0, 8);
        }
        Due.due("3 all eight", x.field(8, 1), 255);
        x.change(7, 1, 0);
        Due.due("3 the last alone", x.field(0, 1), 128);
        Due.due("3 without the last", x.field(8, 1), 127);
        Due.due("3 walkers aren't beasts", x.field(8, 0), 0);
    }

    private static void leavesWrong() {
        GateManners x = new GateManners();
        Due.due("10 no walker", x.leaves(0, 0, 0), Due.BEYOND);
        x.walker(0, 0);
        Due.due("10 s 4", x.leaves(0, 4, 0), Due.BEYOND);
        Due.due("10 s -1", x.leaves(0, -1, 0), Due.BEYOND);
        Due.due("10 what 2", x.leaves(0, 0, 2), Due.BEYOND);
        Due.due("10 what -1", x.leaves(0, 0, -1), Due.BEYOND);
        for (int far : Due.FAR) {
            Due.due("10 far", x.leaves(far, 0, 0), Due.BEYOND);
        }
    }
}
