/** Promises 25 to 27: who came by. */
public final class WhoTest {
    public static void main(String[] args) {
        who();
        fits();
        kinds();
        Due.end();
    }

    private static void who() {
        GateManners x = Due.farm("postman;mean;daughter;walker in 1;dog in 2 back");
        Due.fill(x, 0, 3, 3);
        Due.due("25 the postman", x.who(0), 0b00001);
        Due.fill(x, 0, 3, 3, 0, 0);
        Due.due("25 in one hour", x.who(0), 0b00001);
        Due.fill(x, 0, 1, 1);
        Due.due("25 the daughter", x.who(0), 0b00100);
        Due.fill(x, 0, 0, 0, 0, 0, 0, 0, 0, 0);
        Due.due("25 who leave all shut", x.who(0), 0b11010);
        Due.fill(x, 0, 0, -1);
        Due.due("25 any", x.who(0), 0b11010);
        Due.fill(x, 0, -1, -1);
        Due.due("25 all", x.who(0), 0b11111);
        Due.fill(x, 0);
        Due.due("25 nothing asked", x.who(0), 0b11111);
        Due.fill(x, 0, 4);
        Due.due("25 no such manner", x.who(0), 0);
        Due.fill(x, 0, 0, 0, 0, 0, 0, 0, 0, 1);
        Due.due("25 the last gate", x.who(0), 0);
        Due.fill(x, 0, 0, 0, 0, 0, 0, 0, 0, 0, 9, 9);
        Due.due("25 beyond the first eight", x.who(0), 0b11010);
        // Behind the hour, so the wind has shut what the daughter left ajar.
        x.wind(7);
        Due.fill(x, 0, 0, 0);
        Due.due("25 wind", x.who(0), 0b11110);
        Due.due("25 nothing changes", x.now(0) + x.now(3), 0);
        Due.due("25 4", x.who(4), Due.BEYOND);
        Due.due("25 -1", x.who(-1), Due.BEYOND);
        Due.due("25 missing", x.who(3), Due.MISSING);
        x = new GateManners();
        x.sheet(3, 8, 0);
        Due.due("25 nobody", x.who(3), 0);
    }

    private static void fits() {
        GateManners x = Due.farm("mean;postman;open 2;open 5");
        Due.fill(x, 1, -1, -1, 0, -1, -1, 2);
        Due.due("26 it alone shuts 2", x.fits(1, 0, 1), 0b000000100);
        Due.due("26 two hours", x.fits(1, 0, 2), 0b000000110);
        Due.fill(x, 1, -1, -1, 0, -1, -1, 0);
        // From 2 it takes four hours; from 1 five; from 0 six. Nowhere else both, in six hours.
        Due.due("26 four", x.fits(1, 0, 4), 0b000000100);
        Due.due("26 six", x.fits(1, 0, 6), 0b000000111);
        Due.due("26 twenty", x.fits(1, 0, 20), 0b111111111);
        Due.due("26 no hour", x.fits(1, 0, 0), 0);
        Due.fill(x, 1, 0, 0, 2, 0, 0, 2, 0, 0, 77);
        Due.due("26 no hour", x.fits(1, 0, 0), 511);
        Due.due("26 the others stay", x.fits(1, 0, 1), 0b111011011);
        Due.fill(x, 1, 3, 3);
        Due.due("26 the postman", x.fits(1, 1, 1), 1);
        Due.due("26 its field doesn't count", x.change(1, 1, 8) + x.fits(1, 1, 1), 1);
        Due.due("26 nothing changes", x.of(1, 1) + x.now(0), 8);
        Due.due("26 sheet 4", x.fits(4, 9, 99), Due.BEYOND);
        Due.due("26 sheet -1", x.fits(-1, 0, 0), Due.BEYOND);
        Due.due("26 missing ahead of the rest", x.fits(0, 9, 99), Due.MISSING);
        Due.due("26 walker 2", x.fits(1, 2, 0), Due.BEYOND);
        Due.due("26 walker -1", x.fits(1, -1, 0), Due.BEYOND);
        Due.due("26 n 21", x.fits(1, 0, 21), Due.BEYOND);
        Due.due("26 n -1", x.fits(1, 0, -1), Due.BEYOND);
    }

    private static void kinds() {
        GateManners x = Due.farm("walker in 3 mood 6;propped 3;propped 4;propped 5");
        Due.fill(x, 2, 6);
        Due.due("27 now: all", x.kinds(2, 0), 127);
        Due.fill(x, 2, 5);
        Due.due("27 now: none", x.kinds(2, 0), 0);
        Due.fill(x, 2, 6, 6);
        // The daughter: 9 less 3, twice; the walker.
        Due.due("27 6 again", x.kinds(2, 0), 0b1000001);
        Due.fill(x, 2, 6, 5);
        Due.due("27 less", x.kinds(2, 0), 0b0100000);
        Due.fill(x, 2, -1, 9);
        Due.due("27 9", x.kinds(2, 0), 0b0001110);
        // The stranger: 4 behind the first gate, (4 + 3 + 1) / 2 = 4 behind the next one.
        Due.fill(x, 2, -1, 4);
        Due.due("27 4", x.kinds(2, 0), 0b0010000);
        Due.fill(x, 2, -1, -1, 4);
        Due.due("27 4 later", x.kinds(2, 0), 0b0110000);
        Due.fill(x, 2, 6, -1, 4);
        Due.due("27 4 later", x.kinds(2, 0), 0b0110000);
        Due.fill(x, 2);
        Due.due("27 nothing asked", x.kinds(2, 0), 127);
        Due.fill(x, 2, -1, -1, -1, -1, -1, -1, -1, -1, -1, 0);
        // Beyond the eighth number too: the mean one has passed five gates by then, turned, and gone on.
        Due.due("27 long", x.kinds(2, 0), 0b0100000);
        Due.due("27 nothing changes", x.of(0, 0) + x.of(0, 3) + x.now(0), 6);
        // The others go too: the postman ahead of it props gate 3.
        x = Due.farm("postman in 3;dog in 3 mood 1");
        Due.fill(x, 0, 1, 4);
        Due.due("27 others go", x.kinds(0, 1), 0b0000100);
        Due.due("27 sheet 4", x.kinds(4, 9), Due.BEYOND);
        Due.due("27 sheet -1", x.kinds(-1, 0), Due.BEYOND);
        Due.due("27 missing ahead of the rest", x.kinds(1, 9), Due.MISSING);
        Due.due("27 walker 2", x.kinds(0, 2), Due.BEYOND);
        Due.due("27 walker -1", x.kinds(0, -1), Due.BEYOND);
        x.sheet(0, 8, 40);
        Due.due("27 40 numbers", x.kinds(0, 1), 0);
    }
}
