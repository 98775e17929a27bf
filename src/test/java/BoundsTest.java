import java.util.function.IntToLongFunction;
import java.util.function.ToLongBiFunction;

/**
 * Every argument of every call: the last values that are still taken and the first that are
 * refused, on both sides. What the taken ones answer is looked at by the tests of the promises.
 */
public final class BoundsTest {
    private static final int MIN = Integer.MIN_VALUE;
    private static final int MAX = Integer.MAX_VALUE;

    public static void main(String[] args) {
        fieldsGatesWind();
        walkersAndTheirParts();
        whoIsAWalker();
        whoCanMeet();
        hours();
        whatWillBe();
        whoWhereAsWhat();
        whoCameBy();
        windyHours();
        tapeAndSpots();
        sheets();
        numbersOfSheets();
        copies();
        whatAndWhich();
        Due.end();
    }

    /** All gates shut, no wind; one who shuts what he passes, one who stays; sheets of five numbers. */
    private static GateManners x() {
        GateManners x = Due.farm("mean in 4;child in 8 mood 0;beasts 0 9999;beasts 8 1");
        for (int s = 0; s < 4; s++) {
            x.sheet(s, 8, 5);
        }
        return x;
    }

    private static void bounds(String name, int least, int most, IntToLongFunction call) {
        taken(name, least, call);
        taken(name, most, call);
        refused(name, least - 1, call);
        refused(name, most + 1, call);
        refused(name, MIN, call);
        refused(name, MAX, call);
    }

    private static void taken(String name, int v, IntToLongFunction call) {
        long answer = call.applyAsLong(v);
        Due.due(name + " " + v + " is taken (it answered " + answer + ")", answer >= 0 ? 1 : 0, 1);
    }

    private static void refused(String name, int v, IntToLongFunction call) {
        Due.due(name + " " + v + " is refused", call.applyAsLong(v), Due.BEYOND);
    }

    private static void fieldsGatesWind() {
        bounds("2 field", 0, 8, v -> x().beasts(v, 5));
        bounds("2 v", 0, 9999, v -> x().beasts(3, v));
        bounds("3 field, beasts", 0, 8, v -> x().field(v, 0));
        bounds("3 field, walkers", 0, 8, v -> x().field(v, 1));
        bounds("3 what", 0, 1, v -> x().field(4, v));
        bounds("4 gate", 0, 7, v -> x().gate(v, 2));
        bounds("4 v", 0, 3, v -> x().gate(5, v));
        bounds("5 gate", 0, 7, v -> x().stands(v));
        bounds("6 v", 0, 9, v -> x().wind(v));
    }

    private static void walkersAndTheirParts() {
        bounds("7 kind", 0, 6, v -> x().walker(v, 2));
        bounds("7 field", 0, 8, v -> x().walker(2, v));
        bounds("8 what", 0, 5, v -> x().of(1, v));
        bounds("9 what", 0, 4, v -> x().change(1, v, 0));
        int[] most = {6, 8, 1, 9, 9999};
        for (int what = 0; what < most.length; what++) {
            int part = what;
            bounds("9 v of what " + what, 0, most[what], v -> x().change(1, part, v));
        }
        bounds("10 s", 0, 3, v -> x().leaves(1, v, 0));
        bounds("10 s, feels", 0, 3, v -> x().leaves(1, v, 1));
        bounds("10 what", 0, 1, v -> x().leaves(1, 2, v));
    }

    /** So many walkers, each in a field of its own, all gates shut. */
    private static GateManners withWalkers(int many) {
        GateManners x = new GateManners();
        x.sheet(0, 8, 0);
        for (int i = 0; i < many; i++) {
            Due.due("7 walker " + i, x.walker(i % 7, i), i);
        }
        return x;
    }

    private static void whoIsAWalker() {
        walkers("8 walker", (x, v) -> x.of(v, 0));
        walkers("8 walker, goes", (x, v) -> x.of(v, 5));
        walkers("9 walker", (x, v) -> x.change(v, 3, 5));
        walkers("10 walker", (x, v) -> x.leaves(v, 1, 0));
        walkers("10 walker, feels", (x, v) -> x.leaves(v, 1, 1));
        walkers("15 walker", (x, v) -> x.where(v, 1, 1));
        walkers("19 walker", (x, v) -> x.start(v, 0, 0, 0));
        walkers("20 walker", (x, v) -> x.kindsFor(v, 0, 0, 0));
        walkers("21 walker", (x, v) -> x.moods(v, 0, 0, 0));
        walkers("26 walker", (x, v) -> x.fits(0, v, 0));
        walkers("27 walker", (x, v) -> x.kinds(0, v));
        // For a spot -1 is nothing, and taken: -2 is the first that is refused.
        walkers("34 walker", (x, v) -> x.hold(0, v == -1 ? -2 : v));
    }

    private static void walkers(String name, ToLongBiFunction<GateManners, Integer> call) {
        int[] numbers = {-1, 0, 1, 2, 6, 7, 8, 9, MIN, MAX};
        for (int many = 0; many <= 8; many++) {
            for (int v : numbers) {
                GateManners x = withWalkers(many);
                IntToLongFunction one = number -> call.applyAsLong(x, number);
                if (v >= 0 && v < many) {
                    taken(name + " of " + many, v, one);
                } else {
                    refused(name + " of " + many, v, one);
                }
            }
        }
    }

    private static void whoCanMeet() {
        int[] numbers = {-1, 0, 1, 2, 6, 7, 8, 9, MIN, MAX};
        for (int many = 0; many <= 8; many++) {
            for (int a : numbers) {
                for (int b : numbers) {
                    boolean fine = a >= 0 && a < many && b >= 0 && b < many && a != b;
                    long answer = withWalkers(many).meet(a, b);
                    Due.due("18 " + a + ", " + b + " of " + many, answer == Due.BEYOND ? 1 : 0, fine ? 0 : 1);
                }
            }
        }
    }

    private static void hours() {
        bounds("11 n", 1, 60, v -> x().go(v));
        bounds("12 what", 0, 5, v -> x().now(v));
    }

    /** A gate stands s if that is a way to stand, else as at first. */
    private static GateManners standing(int gate, int s) {
        GateManners x = x();
        x.gate(gate, s);
        return x;
    }

    private static void whatWillBe() {
        bounds("13 field", 0, 8, v -> x().ahead(v, 1));
        bounds("13 n", 0, 100, v -> x().ahead(0, v));
        bounds("14 gate", 0, 7, v -> x().stand(v, 1));
        bounds("14 n", 0, 100, v -> x().stand(0, v));
        bounds("15 what, field alone", 1, 1, v -> x().where(0, v, 1));
        bounds("15 what, mood alone", 3, 3, v -> x().where(0, v, 1));
        bounds("15 n", 0, 100, v -> x().where(0, 1, v));
        bounds("15 n, mood", 0, 100, v -> x().where(0, 3, v));
        bounds("16 field", 0, 8, v -> x().corn(v, 0));
        bounds("16 v", 0, 9999, v -> x().corn(0, v));
        bounds("17 gate", 0, 7, v -> x().when(v, 0));
        bounds("17 s", 0, 3, v -> standing(3, v).when(3, v));
    }

    private static void whoWhereAsWhat() {
        bounds("19 gate", 0, 7, v -> x().start(0, v, 0, 0));
        bounds("19 s", 0, 3, v -> standing(3, v).start(0, 3, v, 0));
        bounds("19 n", 0, 40, v -> x().start(0, 3, 0, v));
        bounds("20 gate", 0, 7, v -> x().kindsFor(0, v, 0, 1));
        bounds("20 s", 0, 3, v -> x().kindsFor(0, 3, v, 1));
        bounds("20 n", 0, 40, v -> x().kindsFor(0, 3, 0, v));
        bounds("21 gate", 0, 7, v -> x().moods(0, v, 0, 1));
        bounds("21 s", 0, 3, v -> x().moods(0, 3, v, 1));
        bounds("21 n", 0, 40, v -> x().moods(0, 3, 0, v));
        bounds("22 field", 0, 8, v -> x().windFor(v, 9999, 1));
        bounds("22 v", 0, 9999, v -> x().windFor(3, v, 1));
        bounds("22 n", 0, 40, v -> x().windFor(3, 0, v));
        bounds("23 field", 0, 8, v -> x().home(v, 9999, 1));
        bounds("23 v", 0, 9999, v -> x().home(3, v, 1));
        bounds("23 n", 0, 20, v -> x().home(3, 0, v));
        bounds("24 field", 0, 8, v -> x().shut(v, 1));
        bounds("24 n", 0, 40, v -> x().shut(3, v));
    }

    private static void whoCameBy() {
        bounds("25 sheet", 0, 3, v -> x().who(v));
        bounds("26 sheet", 0, 3, v -> x().fits(v, 0, 1));
        bounds("26 n", 0, 20, v -> x().fits(0, 0, v));
        bounds("27 sheet", 0, 3, v -> x().kinds(v, 0));
    }

    private static void windyHours() {
        bounds("28 n", 1, 20, v -> x().gales(v));
        bounds("29 n, above", 0, 20, v -> x().odds(v, 0));
        bounds("29 n, below", 0, 20, v -> x().odds(v, 1));
        bounds("29 what", 0, 1, v -> x().odds(3, v));
    }

    private static void tapeAndSpots() {
        bounds("31 n", 1, 4, v -> x().feed(0, v));
        bounds("34 spot", 0, 9, v -> x().hold(v, 0));
        bounds("34 spot, nothing", 0, 9, v -> x().hold(v, -1));
        bounds("34 walker or nothing", -1, 1, v -> x().hold(5, v));
        bounds("35 spot", 0, 9, v -> allHeld().as(v, 0));
        bounds("35 kind", 0, 6, v -> allHeldOfKind(v).as(4, v));
    }

    private static GateManners allHeld() {
        GateManners x = x();
        for (int spot = 0; spot < 10; spot++) {
            x.hold(spot, 1);
        }
        return x;
    }

    /** Held ones are of a kind if that is one, else a child still. */
    private static GateManners allHeldOfKind(int kind) {
        GateManners x = allHeld();
        x.change(1, 0, kind);
        return x;
    }

    private static void sheets() {
        int[] bits = {8, 16, 32};
        for (int b : bits) {
            bounds("36 sheet of " + b, 0, 3, v -> x().sheet(v, b, 5));
            bounds("36 bits", b, b, v -> x().sheet(1, v, 5));
            taken("36 n of " + b + " bits", 0, v -> x().sheet(1, b, v));
            taken("36 n of " + b + " bits", 40, v -> x().sheet(1, b, v));
            refused("36 n of " + b + " bits", 41, v -> x().sheet(1, b, v));
            refused("36 n of " + b + " bits", MAX, v -> x().sheet(1, b, v));
            Due.due("36 n -1 of " + b + " bits", x().sheet(1, b, -1), Due.SIZE);
            Due.due("36 n MIN of " + b + " bits", x().sheet(1, b, MIN), Due.SIZE);
        }
        bounds("36 bits 0", 0, 0, v -> x().sheet(1, v, 5));
        bounds("36 sheet to be missing", 0, 3, v -> x().sheet(v, 0, 5));
        Due.due("36 n -1 of bits 0", x().sheet(1, 0, -1), Due.SIZE);
        Due.due("36 n MIN of bits 0", x().sheet(1, 0, MIN), Due.SIZE);
        refused("36 n of bits 0", 41, v -> x().sheet(1, 0, v));
    }

    private static void numbersOfSheets() {
        bounds("37 sheet", 0, 3, v -> x().write(v, 0, 1));
        bounds("37 number of five", 0, 4, v -> x().write(2, v, 1));
        bounds("37 number of forty", 0, 39, v -> sized(40).write(2, v, 1));
        bounds("37 number of one", 0, 0, v -> sized(1).write(2, v, 1));
        int[] numbers = {MIN, -1, 0, 1, MAX};
        for (int v : numbers) {
            refused("37 number of none", v, i -> sized(0).write(2, i, 1));
            taken("37 any v", v, value -> x().write(2, 0, value));
        }
        bounds("39 sheet", 0, 3, v -> x().load(v));
        bounds("40 sheet", 0, 3, v -> x().judge(v));
    }

    private static GateManners sized(int n) {
        GateManners x = x();
        x.sheet(2, 8, n);
        return x;
    }

    /** Sheet 2 of n numbers, the others of five. */
    private static void copies() {
        bounds("38 from which", 0, 3, v -> x().copy(v, 0, 0, 0, 5));
        bounds("38 to which", 0, 3, v -> x().copy(0, 0, v, 0, 5));
        bounds("38 n", 0, 5, v -> x().copy(0, 0, 1, 0, v));
        bounds("38 n, one has fewer", 0, 3, v -> sized(3).copy(2, 0, 1, 0, v));
        bounds("38 n, the other has fewer", 0, 3, v -> sized(3).copy(1, 0, 2, 0, v));
        bounds("38 n, none at all", 0, 0, v -> sized(0).copy(2, 0, 2, 0, v));
        bounds("38 n, all in itself", 0, 40, v -> sized(40).copy(2, 0, 2, 0, v));
        bounds("38 from", 0, 2, v -> x().copy(0, v, 1, 0, 3));
        bounds("38 to", 0, 2, v -> x().copy(0, 0, 1, v, 3));
        bounds("38 from, one number", 0, 4, v -> x().copy(0, v, 1, 0, 1));
        bounds("38 to, one number", 0, 4, v -> x().copy(0, 0, 1, v, 1));
        bounds("38 from, no number", 0, 5, v -> x().copy(0, v, 1, 0, 0));
        bounds("38 to, no number", 0, 5, v -> x().copy(0, 0, 1, v, 0));
        refused("38 from and n together", MAX, v -> x().copy(0, v, 1, 0, v));
        refused("38 to and n together", MAX, v -> x().copy(0, 0, 1, v, v));
        refused("38 all", -1, v -> x().copy(0, v, 1, v, v));
    }

    private static void whatAndWhich() {
        bounds("44 what", 0, 7, v -> x().count(v));
        bounds("45 which", -1, 6, v -> x().status(v));
    }
}
