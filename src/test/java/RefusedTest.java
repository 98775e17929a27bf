import java.util.ArrayList;
import java.util.List;
import java.util.function.Supplier;
import java.util.function.ToLongFunction;

/**
 * Each call with each of its findings: which is told if several would be (that of the earlier words),
 * and that a call which answers one changes nothing but status(). For that, two farms are made alike;
 * the call is made on one of them, and from then on both must answer alike whatever they are asked.
 */
public final class RefusedTest {
    private static final int MIN = Integer.MIN_VALUE;
    private static final int MAX = Integer.MAX_VALUE;

    public static void main(String[] args) {
        theNumbersOfFindings();
        fieldsGatesWind();
        walkers();
        full();
        hours();
        whatWillBe();
        whoWhereAsWhat();
        whoCameBy();
        windyHours();
        lateHours();
        tapes();
        spots();
        sheets();
        numbersOfSheets();
        copies();
        images();
        aFaultIsNoFinding();
        Due.end();
    }

    /**
     * 8 walkers, a tape of 118 bytes that is a text, two spots, three sheets of different bits, an
     * image of another hour: whatever a call might change by mistake can be seen.
     */
    private static GateManners busy() {
        GateManners x = new GateManners();
        Due.textOf(x, "walker in 1;postman in 5 back;dog in 3 mood 6;child in 8 back mood 8;stranger in 2 mood 7");
        Due.textOf(x, "mean in 6 back;daughter in 4;dog mood 0;beasts 0 800;beasts 2 9999;beasts 5 16");
        Due.textOf(x, "ajar 0;open 2;propped 4;ajar 6;wind 4");
        x.change(0, 4, 9997);
        x.seed(-77);
        x.hold(0, 7);
        x.hold(9, 2);
        x.go(1);
        x.image();
        x.go(2);
        x.wind(3);
        x.hold(4, 1);
        x.sheet(0, 8, 3);
        x.write(0, 0, -1);
        x.write(0, 2, 3);
        x.sheet(1, 16, 4);
        x.write(1, 1, 500);
        x.write(1, 3, 9999);
        x.sheet(2, 32, 2);
        x.write(2, 1, MAX);
        feedText(x, "beasts 8 31;open 7");
        return x;
    }

    /** Fills the tape to 118 bytes, with blanks behind the text. */
    private static void feedText(GateManners x, String text) {
        Due.feedAll(x, text + " ".repeat(118 - text.length()));
        Due.due("31 tape", x.count(5), 118);
    }

    /** All that can be asked, at last by calls that change much, so it must be the end. */
    private static List<Long> allThatIsSo(GateManners x) {
        List<Long> told = new ArrayList<>();
        standing(x, told);
        for (int s = 0; s < 4; s++) {
            told.add((long) x.who(s));
            told.add((long) x.judge(s));
            told.add((long) x.kinds(s, 0));
            for (int n = 1; n <= 5; n++) {
                told.add((long) x.copy(s, 0, s, 0, n));
            }
            for (int t = 0; t < s; t++) {
                told.add((long) x.copy(s, 0, t, 0, 0));
            }
            told.add((long) x.load(s));
            told.add((long) x.now(1));
        }
        // What load can't tell, as it ends at it: the numbers behind come to the begin.
        for (int i = 1; i < 4; i++) {
            told.add((long) x.copy(0, i, 0, 0, 1));
            told.add((long) x.load(0));
            told.add((long) x.copy(1, i, 1, 0, 1));
            told.add((long) x.load(1));
            told.add((long) x.field(0, 0));
        }
        told.add((long) x.wind(2));
        told.add((long) x.text());
        standing(x, told);
        told.add((long) x.gales(3));
        told.add((long) x.undo());
        told.add((long) x.wind(2));
        standing(x, told);
        return told;
    }

    private static void standing(GateManners x, List<Long> told) {
        for (int what = 0; what < 8; what++) {
            told.add((long) x.count(what));
        }
        told.add((long) x.now(3));
        for (int field = 0; field < 9; field++) {
            told.add((long) x.field(field, 0));
        }
        for (int walker = 0; walker < 8; walker++) {
            for (int what = 0; what < 5; what++) {
                told.add((long) x.of(walker, what));
            }
        }
        for (int spot = 0; spot < 10; spot++) {
            told.add((long) x.as(spot, 0));
        }
    }

    private static void refused(String name, long finding, ToLongFunction<GateManners> call) {
        refused(name, finding, RefusedTest::busy, call);
    }

    private static void refused(String name, long finding, Supplier<GateManners> farm, ToLongFunction<GateManners> call) {
        GateManners asked = farm.get();
        GateManners twin = farm.get();
        Due.due(name, call.applyAsLong(asked), finding);
        int which = (int) (Due.BEYOND - finding);
        for (int i = 0; i < 7; i++) {
            Due.due(name + ", status " + i, asked.status(i), twin.status(i) + (i == which ? 1 : 0));
        }
        Due.due(name + ", status of all", asked.status(-1), twin.status(-1) + 1);
        Due.due(name + " changes nothing", allThatIsSo(asked).equals(allThatIsSo(twin)) ? 1 : 0, 1);
    }

    private static void theNumbersOfFindings() {
        long[] findings = {Due.BEYOND, Due.FULL, Due.KIND, Due.NONE, Due.STATE, Due.MISSING, Due.SIZE};
        for (int i = 0; i < findings.length; i++) {
            Due.due("LOW - " + i, findings[i], -1000001L - i);
        }
        Due.due("in longs, too", new GateManners().odds(-1, 0), -1000001L);
    }

    private static void fieldsGatesWind() {
        refused("2 field", Due.BEYOND, x -> x.beasts(9, 5));
        refused("2 v", Due.BEYOND, x -> x.beasts(2, 10000));
        refused("2 v below", Due.BEYOND, x -> x.beasts(2, -1));
        refused("3 field", Due.BEYOND, x -> x.field(-1, 0));
        refused("3 what", Due.BEYOND, x -> x.field(0, 2));
        refused("4 gate", Due.BEYOND, x -> x.gate(8, 1));
        refused("4 v", Due.BEYOND, x -> x.gate(0, 4));
        refused("4 v below", Due.BEYOND, x -> x.gate(0, -1));
        refused("5 gate", Due.BEYOND, x -> x.stands(8));
        refused("6 v", Due.BEYOND, x -> x.wind(10));
        refused("6 v below", Due.BEYOND, x -> x.wind(-1));
    }

    private static void walkers() {
        refused("8 walker", Due.BEYOND, x -> x.of(8, 0));
        refused("8 what", Due.BEYOND, x -> x.of(0, 6));
        refused("9 walker", Due.BEYOND, x -> x.change(8, 0, 1));
        refused("9 what", Due.BEYOND, x -> x.change(0, 5, 1));
        refused("9 kind", Due.BEYOND, x -> x.change(0, 0, 7));
        refused("9 field", Due.BEYOND, x -> x.change(0, 1, 9));
        refused("9 way", Due.BEYOND, x -> x.change(0, 2, 2));
        refused("9 mood", Due.BEYOND, x -> x.change(0, 3, 10));
        refused("9 passed", Due.BEYOND, x -> x.change(0, 4, 10000));
        refused("9 v below", Due.BEYOND, x -> x.change(0, 4, -1));
        refused("10 walker", Due.BEYOND, x -> x.leaves(8, 0, 0));
        refused("10 s", Due.BEYOND, x -> x.leaves(0, 4, 0));
        refused("10 what", Due.BEYOND, x -> x.leaves(0, 0, 2));
    }

    private static void full() {
        refused("7 a ninth", Due.FULL, x -> x.walker(0, 0));
        refused("7 kind ahead of FULL", Due.BEYOND, x -> x.walker(7, 0));
        refused("7 field ahead of FULL", Due.BEYOND, x -> x.walker(0, 9));
        refused("7 kind, with room", Due.BEYOND, () -> fewWalkers(), x -> x.walker(-1, 0));
        refused("7 field, with room", Due.BEYOND, () -> fewWalkers(), x -> x.walker(0, -1));
    }

    private static GateManners fewWalkers() {
        GateManners x = Due.farm("dog;mean in 3");
        x.image();
        return x;
    }

    private static void hours() {
        refused("11 n", Due.BEYOND, x -> x.go(0));
        refused("11 n above", Due.BEYOND, x -> x.go(61));
        refused("12 what", Due.BEYOND, x -> x.now(6));
    }

    private static void whatWillBe() {
        refused("13 field", Due.BEYOND, x -> x.ahead(9, 1));
        refused("13 n", Due.BEYOND, x -> x.ahead(0, 101));
        refused("14 gate", Due.BEYOND, x -> x.stand(8, 1));
        refused("14 n", Due.BEYOND, x -> x.stand(0, 101));
        refused("15 walker", Due.BEYOND, x -> x.where(8, 1, 1));
        refused("15 what", Due.BEYOND, x -> x.where(0, 2, 1));
        refused("15 n", Due.BEYOND, x -> x.where(0, 1, 101));
        refused("16 field", Due.BEYOND, x -> x.corn(9, 9999));
        refused("16 v", Due.BEYOND, x -> x.corn(0, 10000));
        refused("16 none", Due.NONE, x -> x.corn(8, 9999));
        refused("17 gate", Due.BEYOND, x -> x.when(8, 1));
        refused("17 s", Due.BEYOND, x -> x.when(0, 4));
        refused("17 none", Due.NONE, RefusedTest::still, x -> x.when(0, 1));
        refused("18 a", Due.BEYOND, x -> x.meet(8, 0));
        refused("18 b", Due.BEYOND, x -> x.meet(0, 8));
        refused("18 one and the same", Due.BEYOND, x -> x.meet(3, 3));
        refused("18 none", Due.NONE, RefusedTest::still, x -> x.meet(0, 1));
    }

    /** Nobody goes and nothing is kept; sheet 1 has a number. */
    private static GateManners still() {
        GateManners x = Due.farm("child in 2 mood 4;stranger in 5 mood 4;beasts 3 40;open 3;beasts 4 20");
        x.hold(2, 1);
        x.sheet(1, 8, 1);
        x.write(1, 0, 77);
        x.feed('w', 1);
        return x;
    }

    private static void whoWhereAsWhat() {
        refused("19 walker", Due.BEYOND, x -> x.start(8, 0, 0, 1));
        refused("19 gate", Due.BEYOND, x -> x.start(0, 8, 0, 1));
        refused("19 s", Due.BEYOND, x -> x.start(0, 0, 4, 1));
        refused("19 n", Due.BEYOND, x -> x.start(0, 0, 0, 41));
        refused("19 none", Due.NONE, RefusedTest::still, x -> x.start(0, 0, 3, 40));
        refused("20 walker", Due.BEYOND, x -> x.kindsFor(8, 0, 0, 1));
        refused("20 gate", Due.BEYOND, x -> x.kindsFor(0, 8, 0, 1));
        refused("20 s", Due.BEYOND, x -> x.kindsFor(0, 0, 4, 1));
        refused("20 n", Due.BEYOND, x -> x.kindsFor(0, 0, 0, 41));
        refused("21 walker", Due.BEYOND, x -> x.moods(8, 0, 0, 1));
        refused("21 gate", Due.BEYOND, x -> x.moods(0, 8, 0, 1));
        refused("21 s", Due.BEYOND, x -> x.moods(0, 0, 4, 1));
        refused("21 n", Due.BEYOND, x -> x.moods(0, 0, 0, 41));
        refused("22 field", Due.BEYOND, x -> x.windFor(9, 0, 1));
        refused("22 v", Due.BEYOND, x -> x.windFor(0, 10000, 1));
        refused("22 n", Due.BEYOND, x -> x.windFor(0, 0, 41));
        refused("22 none", Due.NONE, x -> x.windFor(2, 0, 40));
        refused("23 field", Due.BEYOND, x -> x.home(9, 0, 1));
        refused("23 v", Due.BEYOND, x -> x.home(0, 10000, 1));
        refused("23 n", Due.BEYOND, x -> x.home(0, 0, 21));
        refused("23 none", Due.NONE, x -> x.home(2, 0, 20));
        refused("24 field", Due.BEYOND, x -> x.shut(9, 1));
        refused("24 n", Due.BEYOND, x -> x.shut(0, 41));
    }

    private static void whoCameBy() {
        refused("25 sheet", Due.BEYOND, x -> x.who(4));
        refused("25 missing", Due.MISSING, x -> x.who(3));
        refused("26 sheet ahead of all", Due.BEYOND, x -> x.fits(-1, 8, 21));
        refused("26 missing ahead of the walker", Due.MISSING, x -> x.fits(3, 8, 0));
        refused("26 missing ahead of n", Due.MISSING, x -> x.fits(3, 0, 21));
        refused("26 walker", Due.BEYOND, x -> x.fits(0, 8, 0));
        refused("26 n", Due.BEYOND, x -> x.fits(0, 0, 21));
        refused("27 sheet ahead of all", Due.BEYOND, x -> x.kinds(4, 8));
        refused("27 missing ahead of the walker", Due.MISSING, x -> x.kinds(3, 8));
        refused("27 missing", Due.MISSING, x -> x.kinds(3, 0));
        refused("27 walker", Due.BEYOND, x -> x.kinds(0, 8));
    }

    private static void windyHours() {
        refused("28 n", Due.BEYOND, x -> x.gales(0));
        refused("28 n above", Due.BEYOND, x -> x.gales(21));
        refused("29 n", Due.BEYOND, x -> x.odds(21, 0));
        refused("29 what", Due.BEYOND, x -> x.odds(20, 2));
    }

    /** HOUR 99990: 512 calls do not come that far, so these go on beyond them. */
    private static GateManners late() {
        GateManners x = busy();
        for (int i = 0; i < 1666; i++) {
            x.go(60);
        }
        x.go(27);
        Due.due("11 late", x.now(0), 99990);
        return x;
    }

    private static void lateHours() {
        refused("11 100000", Due.STATE, RefusedTest::late, x -> x.go(10));
        refused("11 far above", Due.STATE, RefusedTest::late, x -> x.go(60));
        refused("11 n ahead of STATE", Due.BEYOND, RefusedTest::late, x -> x.go(61));
        refused("28 100000", Due.STATE, RefusedTest::late, x -> x.gales(10));
        refused("28 far above", Due.STATE, RefusedTest::late, x -> x.gales(20));
        refused("28 n ahead of STATE", Due.BEYOND, RefusedTest::late, x -> x.gales(21));
    }

    private static void tapes() {
        refused("31 n", Due.BEYOND, x -> x.feed(MAX, 0));
        refused("31 n ahead of FULL", Due.BEYOND, x -> x.feed(MAX, 5));
        refused("31 n below, ahead of FULL", Due.BEYOND, x -> x.feed(MAX, MIN));
        // 118 and 3: it does not get the two for which there would be room.
        refused("31 three", Due.FULL, x -> x.feed(MAX, 3));
        refused("31 four", Due.FULL, x -> x.feed(MAX, 4));
        refused("31 one", Due.FULL, RefusedTest::fullTape, x -> x.feed(MAX, 1));
        refused("31 n ahead of FULL, no room", Due.BEYOND, RefusedTest::fullTape, x -> x.feed(MAX, 0));
    }

    private static GateManners fullTape() {
        GateManners x = busy();
        Due.due("31 two", x.feed(' ' << 8 | ' ', 2), 120);
        return x;
    }

    private static void spots() {
        refused("34 spot", Due.BEYOND, x -> x.hold(10, 0));
        refused("34 spot below", Due.BEYOND, x -> x.hold(-1, -1));
        refused("34 walker", Due.BEYOND, x -> x.hold(0, 8));
        refused("34 walker below", Due.BEYOND, x -> x.hold(0, -2));
        refused("35 spot", Due.BEYOND, x -> x.as(10, 0));
        refused("35 kind", Due.BEYOND, x -> x.as(0, 7));
        refused("35 kind ahead of MISSING", Due.BEYOND, x -> x.as(1, 7));
        refused("35 missing ahead of KIND", Due.MISSING, x -> x.as(1, 5));
        refused("35 missing", Due.MISSING, x -> x.as(1, 0));
        refused("35 not of that kind", Due.KIND, x -> x.as(9, 5));
        refused("35 of the kind above", Due.KIND, x -> x.as(9, 3));
    }

    private static void sheets() {
        refused("36 sheet", Due.BEYOND, x -> x.sheet(4, 8, 1));
        refused("36 sheet ahead of SIZE", Due.BEYOND, x -> x.sheet(-1, 8, -1));
        refused("36 bits", Due.BEYOND, x -> x.sheet(0, 9, 1));
        refused("36 bits ahead of SIZE", Due.BEYOND, x -> x.sheet(0, 24, -1));
        refused("36 size", Due.SIZE, x -> x.sheet(0, 8, -1));
        refused("36 size far", Due.SIZE, x -> x.sheet(0, 16, MIN));
        refused("36 size with bits 0", Due.SIZE, x -> x.sheet(0, 0, -1));
        refused("36 size with bits 0 of a missing one", Due.SIZE, x -> x.sheet(3, 0, -1));
        refused("36 n above 40", Due.BEYOND, x -> x.sheet(0, 8, 41));
        refused("36 n above 40, of a missing one", Due.BEYOND, x -> x.sheet(3, 32, 41));
        refused("36 n above 40 with bits 0", Due.BEYOND, x -> x.sheet(0, 0, 41));
    }

    private static void numbersOfSheets() {
        refused("37 sheet", Due.BEYOND, x -> x.write(4, 0, 1));
        refused("37 missing ahead of the number", Due.MISSING, x -> x.write(3, -1, 1));
        refused("37 missing", Due.MISSING, x -> x.write(3, 0, 1));
        refused("37 number", Due.BEYOND, x -> x.write(0, 3, 1));
        refused("37 number below", Due.BEYOND, x -> x.write(0, -1, 1));
        refused("39 sheet", Due.BEYOND, x -> x.load(4));
        refused("39 missing", Due.MISSING, x -> x.load(3));
        refused("40 sheet", Due.BEYOND, x -> x.judge(4));
        refused("40 missing", Due.MISSING, x -> x.judge(3));
    }

    private static void copies() {
        refused("38 one ahead of MISSING", Due.BEYOND, x -> x.copy(4, 0, 3, 0, 1));
        refused("38 the other ahead of MISSING", Due.BEYOND, x -> x.copy(3, 0, 4, 0, 1));
        refused("38 one below", Due.BEYOND, x -> x.copy(-1, 0, 0, 0, 1));
        refused("38 the other below", Due.BEYOND, x -> x.copy(0, 0, -1, 0, 1));
        refused("38 missing ahead of KIND and BEYOND", Due.MISSING, x -> x.copy(3, -1, 0, -1, -1));
        refused("38 the other is missing", Due.MISSING, x -> x.copy(0, -1, 3, 99, MAX));
        refused("38 both are missing", Due.MISSING, x -> x.copy(3, 0, 3, 0, 0));
        refused("38 bits", Due.KIND, x -> x.copy(0, 0, 1, 0, 1));
        refused("38 bits, no number", Due.KIND, x -> x.copy(1, 0, 2, 0, 0));
        refused("38 bits ahead of BEYOND", Due.KIND, x -> x.copy(2, -1, 0, 99, MAX));
        refused("38 one has not so many", Due.BEYOND, x -> x.copy(0, 1, 0, 0, 3));
        refused("38 the other has not so many", Due.BEYOND, x -> x.copy(1, 0, 1, 1, 4));
        refused("38 from", Due.BEYOND, x -> x.copy(0, -1, 0, 0, 1));
        refused("38 to", Due.BEYOND, x -> x.copy(0, 0, 0, -1, 1));
        refused("38 n", Due.BEYOND, x -> x.copy(0, 1, 0, 1, -1));
        refused("38 n far", Due.BEYOND, x -> x.copy(0, 1, 0, 1, MAX));
        refused("38 from far", Due.BEYOND, x -> x.copy(0, MAX, 0, 0, 1));
        refused("38 to far", Due.BEYOND, x -> x.copy(0, 0, 0, MAX, 1));
    }

    private static void images() {
        refused("42 nothing is kept", Due.NONE, RefusedTest::still, x -> x.undo());
        refused("42 nothing is kept any more", Due.NONE, RefusedTest::torn, x -> x.undo());
        refused("44 what", Due.BEYOND, x -> x.count(8));
        refused("44 what below", Due.BEYOND, x -> x.count(-1));
        refused("45 which", Due.BEYOND, x -> x.status(7));
        refused("45 which below", Due.BEYOND, x -> x.status(-2));
    }

    private static GateManners torn() {
        GateManners x = busy();
        Due.due("43 torn", x.tear(), 1);
        return x;
    }

    /** With a FAULT nothing changes but that the tape is empty, and status() counts nothing. */
    private static void aFaultIsNoFinding() {
        GateManners asked = busy();
        GateManners twin = busy();
        asked.wipe();
        twin.wipe();
        Due.feedAll(asked, "beasts 2 1;wind 9;shut 4;ajar 5;open 6;beasts 9 1");
        Due.due("33 fault", asked.text(), -1 - 46);
        for (int which = -1; which < 7; which++) {
            Due.due("33 no finding, " + which, asked.status(which), twin.status(which));
        }
        Due.due("33 nothing changes", allThatIsSo(asked).equals(allThatIsSo(twin)) ? 1 : 0, 1);
    }
}
