/** Promises 34 to 40: spots and sheets. */
public final class SheetTest {
    private static final int MIN = Integer.MIN_VALUE;
    private static final int MAX = Integer.MAX_VALUE;

    public static void main(String[] args) {
        hold();
        as();
        sheet();
        write();
        copy();
        copyWrong();
        load();
        judge();
        allSpots();
        lowestBits();
        sheetsAnew();
        copyAllForty();
        copyAsTheyAllWere();
        loadAtItsEdges();
        judgeAtItsEdges();
        Due.end();
    }

    private static void hold() {
        GateManners x = new GateManners();
        Due.due("34 no walker", x.hold(0, 0), Due.BEYOND);
        Due.due("34 nothing", x.hold(0, -1), 1);
        x.walker(0, 0);
        x.walker(0, 0);
        Due.due("34 0", x.hold(0, 1), 1);
        Due.due("34 9", x.hold(9, 0), 1);
        Due.due("34 two", x.count(7), 2);
        Due.due("34 spot 10", x.hold(10, 0), Due.BEYOND);
        Due.due("34 spot -1", x.hold(-1, -1), Due.BEYOND);
        Due.due("34 walker 2", x.hold(0, 2), Due.BEYOND);
        Due.due("34 walker -2", x.hold(0, -2), Due.BEYOND);
        for (int far : Due.FAR) {
            Due.due("34 far", x.hold(far, 0), Due.BEYOND);
            Due.due("34 far", x.hold(0, far), Due.BEYOND);
        }
        Due.due("34 it held", x.as(0, 0), 1);
        Due.due("34 nothing again", x.hold(0, -1), 1);
        Due.due("34 nothing again", x.as(0, 0), Due.MISSING);
        Due.due("34 one", x.count(7), 1);
    }

    /** Rows: kinds of a walker; columns: what it is asked as. */
    private static void as() {
        int[][] is = {{1, 0, 0, 0, 0, 0, 0}, {1, 1, 0, 0, 0, 0, 0}, {1, 0, 1, 0, 0, 0, 0}, {1, 0, 1, 1, 0, 0, 0},
            {1, 0, 1, 1, 1, 0, 0}, {1, 0, 0, 0, 0, 1, 0}, {1, 1, 0, 0, 0, 0, 1}};
        GateManners x = new GateManners();
        x.walker(0, 0);
        x.walker(0, 0);
        x.hold(3, 1);
        for (int kind = 0; kind < 7; kind++) {
            x.change(1, 0, kind);
            for (int asked = 0; asked < 7; asked++) {
                Due.due("35 " + kind + " as " + asked, x.as(3, asked), is[kind][asked] == 1 ? 1 : Due.KIND);
            }
        }
        Due.due("35 kind 7", x.as(3, 7), Due.BEYOND);
        Due.due("35 kind -1", x.as(3, -1), Due.BEYOND);
        Due.due("35 BEYOND ahead of MISSING", x.as(4, 7), Due.BEYOND);
        Due.due("35 missing", x.as(4, 0), Due.MISSING);
        Due.due("35 spot 10", x.as(10, 0), Due.BEYOND);
        Due.due("35 spot -1", x.as(-1, 0), Due.BEYOND);
    }

    private static void sheet() {
        GateManners x = new GateManners();
        int[] bits = {8, 16, 32};
        for (int b : bits) {
            Due.due("36 made", x.sheet(3, b, 40), 40);
            Due.due("36 the last number", x.write(3, 39, 1), 1);
            Due.due("36 none", x.sheet(3, b, 0), 0);
            Due.due("36 none", x.write(3, 0, 1), Due.BEYOND);
        }
        Due.fill(x, 0, 5, 6);
        Due.due("36 anew", x.sheet(0, 32, 2), 2);
        x.beasts(0, 9);
        Due.due("36 all 0", x.load(0), 2);
        Due.due("36 all 0", x.field(0, 0), 0);
        Due.due("36 longer", x.sheet(0, 8, 3), 3);
        Due.due("36 bits 7", x.sheet(0, 7, 1), Due.BEYOND);
        Due.due("36 bits 64", x.sheet(0, 64, -1), Due.BEYOND);
        Due.due("36 bits -8", x.sheet(0, -8, 1), Due.BEYOND);
        Due.due("36 sheet 4", x.sheet(4, 8, -1), Due.BEYOND);
        Due.due("36 sheet -1", x.sheet(-1, 8, 1), Due.BEYOND);
        Due.due("36 n -1", x.sheet(0, 8, -1), Due.SIZE);
        Due.due("36 n -1, bits 0", x.sheet(0, 0, -1), Due.SIZE);
        Due.due("36 n far", x.sheet(0, 8, MIN), Due.SIZE);
        Due.due("36 n 41", x.sheet(0, 8, 41), Due.BEYOND);
        Due.due("36 n 41, bits 0", x.sheet(0, 0, 41), Due.BEYOND);
        Due.due("36 n far", x.sheet(0, 8, MAX), Due.BEYOND);
        Due.due("36 unchanged", x.write(0, 2, 0), 1);
        Due.due("36 away", x.sheet(0, 0, 7), 0);
        Due.due("36 away", x.write(0, 0, 0), Due.MISSING);
    }

    private static void write() {
        GateManners x = new GateManners();
        x.sheet(0, 8, 2);
        x.sheet(1, 16, 2);
        x.sheet(2, 32, 2);
        int v = 0x70010203;
        for (int s = 0; s < 3; s++) {
            Due.due("37 written", x.write(s, 0, v), 1);
        }
        x.load(0);
        Due.due("37 8 bits", x.field(0, 0), 3);
        x.load(1);
        Due.due("37 16 bits", x.field(0, 0), 0x203);
        Due.due("37 32 bits", x.load(2), 0);
        x.write(0, 0, 200);
        Due.due("37 200 in 8 bits is below 0", x.load(0), 0);
        x.write(1, 0, 200);
        Due.due("37 200 in 16 bits", x.load(1), 2);
        x.write(1, 0, 40000);
        Due.due("37 40000 in 16 bits is below 0", x.load(1), 0);
        x.write(1, 0, 65536 + 7);
        Due.due("37 7", x.load(1) + x.field(0, 0), 9);
        Due.due("37 sheet 4", x.write(4, 0, 0), Due.BEYOND);
        Due.due("37 sheet -1", x.write(-1, 0, 0), Due.BEYOND);
        Due.due("37 missing ahead of the number", x.write(3, 99, 0), Due.MISSING);
        Due.due("37 number 2", x.write(0, 2, 0), Due.BEYOND);
        Due.due("37 number -1", x.write(0, -1, 0), Due.BEYOND);
        Due.due("37 number far", x.write(0, MIN, 0), Due.BEYOND);
    }

    private static void beastsAre(String what, GateManners x, int s, int... due) {
        Due.due(what + " load", x.load(s), due.length);
        for (int i = 0; i < due.length; i++) {
            Due.due(what + " number " + i, x.field(i, 0), due[i]);
        }
    }

    private static void copy() {
        GateManners x = new GateManners();
        Due.fill(x, 0, 1, 2, 3, 4, 5);
        Due.fill(x, 1, 11, 12, 13);
        Due.due("38 two", x.copy(0, 3, 1, 0, 2), 2);
        beastsAre("38 two", x, 1, 4, 5, 13);
        beastsAre("38 from", x, 0, 1, 2, 3, 4, 5);
        Due.due("38 onward in itself", x.copy(0, 0, 0, 1, 4), 4);
        beastsAre("38 onward", x, 0, 1, 1, 2, 3, 4);
        Due.due("38 backward in itself", x.copy(0, 2, 0, 0, 3), 3);
        beastsAre("38 backward", x, 0, 2, 3, 4, 3, 4);
        Due.due("38 all", x.copy(1, 0, 0, 2, 3), 3);
        beastsAre("38 all", x, 0, 2, 3, 4, 5, 13);
        Due.due("38 none", x.copy(1, 3, 0, 5, 0), 0);
        Due.due("38 8 bits", x.sheet(2, 8, 1) + x.sheet(3, 8, 1), 2);
        x.write(2, 0, -3);
        Due.due("38 8 bits", x.copy(2, 0, 3, 0, 1), 1);
        Due.due("38 below 0 still", x.load(3), 0);
    }

    private static void copyWrong() {
        GateManners x = new GateManners();
        Due.fill(x, 0, 1, 2, 3);
        Due.fill(x, 1, 1, 2, 3, 4);
        x.sheet(2, 8, 5);
        Due.due("38 sheet 4", x.copy(4, 0, 3, 0, 1), Due.BEYOND);
        Due.due("38 sheet -1", x.copy(3, 0, -1, 0, 1), Due.BEYOND);
        Due.due("38 missing", x.copy(3, 0, 0, 0, 1), Due.MISSING);
        Due.due("38 missing", x.copy(0, 0, 3, 0, 99), Due.MISSING);
        Due.due("38 bits", x.copy(0, 0, 2, 0, 1), Due.KIND);
        Due.due("38 bits ahead of the rest", x.copy(2, -1, 0, 99, 1), Due.KIND);
        Due.due("38 not so many", x.copy(0, 0, 1, 0, 4), Due.BEYOND);
        Due.due("38 not so many there", x.copy(1, 0, 0, 0, 4), Due.BEYOND);
        Due.due("38 from 2", x.copy(0, 2, 1, 0, 2), Due.BEYOND);
        Due.due("38 to 3", x.copy(0, 0, 1, 3, 2), Due.BEYOND);
        Due.due("38 from -1", x.copy(0, -1, 1, 0, 1), Due.BEYOND);
        Due.due("38 to -1", x.copy(0, 0, 1, -1, 1), Due.BEYOND);
        Due.due("38 n -1", x.copy(0, 1, 1, 1, -1), Due.BEYOND);
        Due.due("38 n 0 from 4", x.copy(0, 4, 1, 0, 0), Due.BEYOND);
        Due.due("38 far", x.copy(0, MAX, 1, 0, MAX), Due.BEYOND);
        Due.due("38 far", x.copy(0, 0, 1, MAX, 1), Due.BEYOND);
        Due.due("38 far", x.copy(0, 0, 1, 0, MIN), Due.BEYOND);
        Due.due("38 far", x.copy(0, MIN, 1, MIN, MIN), Due.BEYOND);
        beastsAre("38 unchanged", x, 1, 1, 2, 3, 4);
    }

    private static void allSpots() {
        GateManners x = new GateManners();
        for (int i = 0; i < 8; i++) {
            x.walker(5, 0);
        }
        for (int spot = 0; spot < 10; spot++) {
            Due.due("34 spot " + spot, x.hold(spot, 7), 1);
            Due.due("44 spots", x.count(7), spot + 1);
        }
        for (int spot = 0; spot < 10; spot++) {
            Due.due("35 spot " + spot, x.as(spot, 5), 7);
        }
        Due.due("34 one again", x.hold(9, 0), 1);
        Due.due("44 all ten still", x.count(7), 10);
        Due.due("35 the other one", x.as(9, 5), 0);
        for (int spot = 0; spot < 10; spot++) {
            Due.due("34 nothing in " + spot, x.hold(spot, -1), 1);
            Due.due("34 nothing twice in " + spot, x.hold(spot, -1), 1);
            Due.due("35 nothing in " + spot, x.as(spot, 5), Due.MISSING);
            Due.due("44 spots", x.count(7), 9 - spot);
        }
    }

    /** As beasts: what number a v becomes in so many bits; -1 here: one that is no number of beasts. */
    private static void lowestBits() {
        int[][] eight = {{127, 127}, {128, -1}, {255, -1}, {256, 0}, {257, 1}, {-1, -1}, {-128, -1}, {-129, 127}, {-256, 0},
            {MAX, -1}, {MIN, 0}, {0, 0}};
        int[][] sixteen = {{9999, 9999}, {10000, -1}, {32767, -1}, {32768, -1}, {65535, -1}, {65536, 0}, {75535, 9999},
            {-1, -1}, {-65536, 0}, {-55537, 9999}, {MAX, -1}, {MIN, 0}, {255, 255}};
        int[][] all = {{9999, 9999}, {10000, -1}, {65536, -1}, {-1, -1}, {MAX, -1}, {MIN, -1}, {0, 0}, {256, 256}};
        asBeasts(8, eight);
        asBeasts(16, sixteen);
        asBeasts(32, all);
    }

    private static void asBeasts(int bits, int[][] rows) {
        GateManners x = new GateManners();
        x.sheet(1, bits, 1);
        for (int[] row : rows) {
            x.beasts(0, 4321);
            Due.due("37 written", x.write(1, 0, row[0]), 1);
            Due.due("37 " + row[0] + " of " + bits + " bits", x.load(1), row[1] < 0 ? 0 : 1);
            Due.due("37 " + row[0] + " of " + bits + " bits", x.field(0, 0), row[1] < 0 ? 4321 : row[1]);
        }
    }

    /** All 0 again, whatever it was; none of the others is touched. */
    private static void sheetsAnew() {
        int[] bits = {8, 16, 32};
        for (int was : bits) {
            for (int becomes : bits) {
                GateManners x = new GateManners();
                x.sheet(2, was, 40);
                x.sheet(1, becomes, 1);
                x.write(1, 0, 5);
                for (int i = 0; i < 40; i++) {
                    x.write(2, i, 7);
                }
                Due.due("36 anew", x.sheet(2, becomes, 40), 40);
                for (int i = 0; i < 40; i++) {
                    Due.due("36 copy", x.copy(2, i, 1, 0, 1), 1);
                    x.beasts(0, 9);
                    Due.due("36 load", x.load(1), 1);
                    Due.due("36 number " + i + " is 0", x.field(0, 0), 0);
                }
            }
        }
        GateManners x = new GateManners();
        Due.fill(x, 0, 4, 4, 4);
        Due.due("36 shorter", x.sheet(0, 32, 1), 1);
        Due.due("36 number 1 is none", x.write(0, 1, 0), Due.BEYOND);
        Due.due("36 longer", x.sheet(0, 32, 3), 3);
        x.load(0);
        Due.due("36 what was beyond it is 0", x.now(1), 0);
        Due.due("36 missing", x.sheet(0, 0, 40), 0);
        Due.due("36 missing", x.judge(0), Due.MISSING);
        Due.due("36 missing again", x.sheet(0, 0, 0), 0);
        Due.due("36 of no numbers isn't missing", x.sheet(0, 8, 0), 0);
        Due.due("36 of no numbers isn't missing", x.judge(0), 0);
    }

    private static void copyAllForty() {
        GateManners x = new GateManners();
        x.sheet(0, 16, 40);
        x.sheet(3, 16, 40);
        for (int i = 0; i < 40; i++) {
            x.write(0, i, 100 + i);
        }
        Due.due("38 forty", x.copy(0, 0, 3, 0, 40), 40);
        Due.due("38 forty, the last one at the begin", x.copy(3, 39, 3, 0, 1), 1);
        x.load(3);
        Due.due("38 the last one", x.field(0, 0), 139);
        Due.due("38 the second one", x.field(1, 0), 101);
        Due.due("38 one to the last place", x.copy(0, 5, 3, 39, 1), 1);
        Due.due("38 and from there", x.copy(3, 39, 3, 0, 1), 1);
        x.load(3);
        Due.due("38 the sixth", x.field(0, 0), 105);
        Due.due("38 none, at the ends", x.copy(0, 40, 3, 40, 0), 0);
        Due.due("38 forty-one", x.copy(0, 0, 3, 0, 41), Due.BEYOND);
        Due.due("38 forty from 1", x.copy(0, 1, 3, 0, 40), Due.BEYOND);
        Due.due("38 forty to 1", x.copy(0, 0, 3, 1, 40), Due.BEYOND);
    }

    /** In one sheet, by each from, to and n: the numbers come as they were ahead of the call. */
    private static void copyAsTheyAllWere() {
        for (int from = 0; from <= 5; from++) {
            for (int to = 0; to <= 5; to++) {
                for (int n = 0; n + Math.max(from, to) <= 5; n++) {
                    GateManners x = new GateManners();
                    Due.fill(x, 0, 11, 22, 33, 44, 55);
                    int[] due = {11, 22, 33, 44, 55};
                    for (int i = 0; i < n; i++) {
                        due[to + i] = 11 * (from + i + 1);
                    }
                    Due.due("38 n", x.copy(0, from, 0, to, n), n);
                    beastsAre("38 " + n + " from " + from + " to " + to, x, 0, due);
                }
            }
        }
    }

    private static void loadAtItsEdges() {
        for (int n = 0; n <= 40; n++) {
            GateManners x = new GateManners();
            x.beasts(8, 77);
            x.sheet(0, 16, n);
            for (int i = 0; i < n; i++) {
                x.write(0, i, 5);
            }
            Due.due("39 of " + n, x.load(0), Math.min(n, 9));
            Due.due("39 of " + n, x.now(1), n < 9 ? 5 * n + 77 : 45);
        }
        int[] wrong = {-1, 10000, MIN, MAX};
        for (int v : wrong) {
            for (int place = 0; place <= 9; place++) {
                GateManners x = new GateManners();
                x.sheet(0, 32, 10);
                for (int i = 0; i < 10; i++) {
                    x.write(0, i, i == place ? v : 9999);
                }
                Due.due("39 ends at " + v + " in place " + place, x.load(0), place);
                Due.due("39 those ahead of it came", x.now(1), 9999 * place);
                Due.due("39 no finding", x.status(-1), 0);
            }
        }
        GateManners x = new GateManners();
        Due.fill(x, 0, 0, 9999, 0);
        x.beasts(0, 1);
        x.beasts(2, 1);
        Due.due("39 0 and 9999 are fine", x.load(0), 3);
        Due.due("39 0 and 9999 are fine", x.now(1), 9999);
    }

    private static void judgeAtItsEdges() {
        for (int n = 0; n <= 40; n++) {
            GateManners x = Due.farm("ajar 1;open 2;propped 7");
            x.sheet(0, 8, n);
            int[] so = {0, 1, 2, 0, 0, 0, 0, 3};
            for (int i = 0; i < n && i < 8; i++) {
                x.write(0, i, so[i]);
            }
            Due.due("40 of " + n, x.judge(0), n <= 8 ? 0 : 9);
            for (int i = n - 1; i >= 0; i--) {
                x.write(0, i, 4);
                Due.due("40 of " + n + ", not from " + i + " on", x.judge(0), 1 + Math.min(i, 8));
            }
            Due.due("40 nothing changes", x.now(3), 1 * 4 + 2 * 16 + 3 * 16384);
        }
    }

    private static void load() {
        GateManners x = new GateManners();
        Due.fill(x, 0, 9999, 0, 5, 10000, 7);
        x.beasts(1, 4);
        x.beasts(3, 8);
        x.beasts(4, 9);
        Due.due("39 three", x.load(0), 3);
        int[] due = {9999, 0, 5, 8, 9};
        for (int i = 0; i < due.length; i++) {
            Due.due("39 field " + i, x.field(i, 0), due[i]);
        }
        Due.fill(x, 1, 1, 1, 1, 1, 1, 1, 1, 1, 1, 1, 1);
        Due.due("39 no more fields", x.load(1), 9);
        Due.due("39 all", x.now(1), 9);
        Due.fill(x, 1, -1);
        Due.due("39 -1", x.load(1), 0);
        Due.due("39 unchanged", x.now(1), 9);
        x.sheet(1, 16, 0);
        Due.due("39 none", x.load(1), 0);
        Due.due("39 no finding", x.status(-1), 0);
        Due.due("39 sheet 4", x.load(4), Due.BEYOND);
        Due.due("39 sheet -1", x.load(-1), Due.BEYOND);
        Due.due("39 missing", x.load(2), Due.MISSING);
    }

    private static void judge() {
        GateManners x = Due.farm("ajar 1;open 2;propped 7");
        Due.fill(x, 0, 0, 1, 2, 0, 0, 0, 0, 3);
        Due.due("40 so", x.judge(0), 0);
        x.write(0, 7, 2);
        Due.due("40 the last isn't", x.judge(0), 8);
        x.write(0, 0, -1);
        Due.due("40 -1 isn't any here", x.judge(0), 1);
        Due.fill(x, 0, 0, 1);
        Due.due("40 two", x.judge(0), 0);
        Due.fill(x, 0, 0, 2, 3);
        Due.due("40 the first that isn't", x.judge(0), 2);
        Due.fill(x, 0, 0, 1, 2, 0, 0, 0, 0, 3, 0);
        Due.due("40 there is no gate 8", x.judge(0), 9);
        x.sheet(0, 8, 0);
        Due.due("40 none", x.judge(0), 0);
        Due.due("40 sheet 4", x.judge(4), Due.BEYOND);
        Due.due("40 sheet -1", x.judge(-1), Due.BEYOND);
        Due.due("40 missing", x.judge(1), Due.MISSING);
    }
}
