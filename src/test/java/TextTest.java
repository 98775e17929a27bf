import java.util.ArrayList;
import java.util.List;

/** Promises 31 to 33: the tape and texts. */
public final class TextTest {
    public static void main(String[] args) {
        feed();
        wipe();
        texts();
        faults();
        tooManyWalkers();
        nothingChangesWithAFault();
        feedByBytes();
        aFullTape();
        numbersAtTheirEdges();
        wordsOfAWalkerInTheirOrder();
        anotherWord();
        bytesThatBeginNoToken();
        tokensAsLongAsCanBe();
        endsTooEarly();
        theNinthWalker();
        Due.end();
    }

    private static void feed() {
        GateManners x = new GateManners();
        Due.due("31 n 0", x.feed(1, 0), Due.BEYOND);
        Due.due("31 n 5", x.feed(1, 5), Due.BEYOND);
        Due.due("31 n -1", x.feed(1, -1), Due.BEYOND);
        Due.due("31 n far", x.feed(1, Integer.MIN_VALUE), Due.BEYOND);
        // "wind" and "xx 7": of the second the two lowest bytes alone.
        Due.due("31 4", x.feed(0x77696e64, 4), 4);
        Due.due("31 2", x.feed(0x78782037, 2), 6);
        Due.due("31 read", x.text(), 1);
        Due.due("31 so", x.wind(0), 7);
        Due.due("31 three", x.feed(0x646f67, 3), 3);
        Due.due("31 read", x.text(), 1);
        for (int i = 1; i <= 29; i++) {
            Due.due("31 fills", x.feed(-1, 4), 4 * i);
        }
        Due.due("31 119", x.feed(-1, 3), 119);
        Due.due("31 full", x.feed(-1, 2), Due.FULL);
        Due.due("31 BEYOND ahead of FULL", x.feed(-1, 5), Due.BEYOND);
        Due.due("31 120", x.feed(-1, 1), 120);
        Due.due("31 full", x.feed(-1, 1), Due.FULL);
        Due.due("31 count", x.count(5), 120);
        Due.due("31 bytes above 127 begin no token", x.text(), -1);
    }

    private static void wipe() {
        GateManners x = new GateManners();
        x.feed(0x646f67, 3);
        Due.due("32 had", x.wipe(), 3);
        Due.due("32 empty", x.wipe(), 0);
        x.feed(0x646f67, 3);
        Due.due("32 from its begin on", x.text(), 1);
        Due.due("33 empty then", x.wipe(), 0);
        Due.due("33 fault", Due.textOf(x, "cow"), -1);
        Due.due("33 empty then, too", x.wipe(), 0);
    }

    private static void texts() {
        GateManners x = new GateManners();
        Due.due("33 all", Due.textOf(x, "walker;postman in 8;dog back;child mood 9;stranger in 2 mood 0"), 5);
        Due.due("33 all", Due.textOf(x, "mean in 1 back;daughter in 3back mood 4"), 2);
        Due.due("33 in 0", Due.textOf(new GateManners(), "mean in 0 mood 0"), 1);
        int[][] due = {{0, 0, 0, 3}, {1, 8, 0, 3}, {2, 0, 1, 3}, {3, 0, 0, 9}, {4, 2, 0, 0}, {5, 1, 1, 3}, {6, 3, 1, 4}};
        for (int walker = 0; walker < due.length; walker++) {
            for (int what = 0; what < 4; what++) {
                Due.due("33 walker " + walker + " what " + what, x.of(walker, what), due[walker][what]);
            }
        }
        Due.due("33 gates", Due.textOf(x, "ajar 0;open 1;propped 7;propped 2;shut 2"), 5);
        Due.due("33 stand", x.now(3), 1 + 2 * 4 + 3 * 16384);
        Due.due("33 beasts", Due.textOf(x, "beasts 0 1;beasts 8 9999;beasts 0 0007;wind 9"), 4);
        Due.due("33 item by item", x.field(0, 0), 7);
        Due.due("33 beasts", x.field(8, 0), 9999);
        Due.due("33 wind", x.wind(0), 9);
        Due.due("33 blanks", Due.textOf(x, "  open3 ;beasts2 5  "), 2);
        Due.due("33 blanks", x.stands(3) + x.field(2, 0), 7);
        Due.due("33 no blank needed", Due.textOf(x, "wind5;ajar7"), 2);
        Due.due("33 many zeros", Due.textOf(x, "wind 000000000000000000000008"), 1);
        Due.due("33 many zeros", x.wind(0), 8);
        Due.due("33 0", Due.textOf(x, "wind 0;beasts 0 0;open 0"), 3);
        Due.due("33 0", x.wind(1) + x.field(0, 0) + x.stands(0), 2);
        Due.due("33 one ITEM", Due.textOf(x, "daughter"), 1);
        Due.due("33 the last one", x.count(1), 8);
        Due.due("33 no finding", x.status(-1), 0);
    }

    private static void fault(String text, int place) {
        GateManners x = new GateManners();
        Due.due("33 fault of \"" + text + "\"", Due.textOf(x, text), -1 - place);
        Due.due("33 no finding", x.status(-1), 0);
        Due.due("33 tape", x.count(5), 0);
    }

    private static void faults() {
        fault("", 0);
        fault("   ", 3);
        fault(";", 0);
        fault(" cow", 1);
        fault("7", 0);
        fault("Dog", 0);
        fault("dOg", 0);
        fault("dog O", 4);
        fault("dogdog", 0);
        fault("strangers", 0);
        fault("strange", 0);
        fault("do", 0);
        fault("dogz", 0);
        fault("adog", 0);
        fault("dog dog", 4);
        fault("dog 5", 4);
        fault("dog5", 3);
        fault("dog in", 6);
        fault("dog in ", 7);
        fault("dog in in 3", 7);
        fault("dog in ;", 7);
        fault("dog in 9", 7);
        fault("dog in 3 in 3", 9);
        fault("dog back in 3", 9);
        fault("dog back back", 9);
        fault("dog mood", 8);
        fault("dog mood 10", 9);
        fault("dog mood 3 back", 11);
        fault("dog mood 3 4", 11);
        fault("in 3", 0);
        fault("back", 0);
        fault("mood 3", 0);
        fault("shut", 4);
        fault("shut 8", 5);
        fault("shut ajar", 5);
        fault("propped 1 2", 10);
        fault("beasts", 6);
        fault("beasts 9 1", 7);
        fault("beasts 8", 8);
        fault("beasts 8 10000", 9);
        fault("beasts 8 4294967297", 9);
        fault("beasts 8 1;", 11);
        fault("beasts 8 1 1", 11);
        fault("wind 10", 5);
        fault("wind", 4);
        fault("wind -1", 5);
        fault("wind 1;;wind 2", 7);
        fault("wind 1; ", 8);
        fault("wind 1\nwind", 6);
        fault("wind\t1", 4);
        fault("wind 1,", 6);
        fault("wind 4294967301", 5);
        fault("wind 18446744073709551617", 5);
        fault("wind {", 5);
        fault("wind `", 5);
        fault("wind :", 5);
        fault("wind /", 5);
        fault("wind x #", 5);
    }

    /** The n lowest bytes, the highest of these first; the others are not looked at. */
    private static void feedByBytes() {
        int high = 0x7a000000;
        GateManners x = new GateManners();
        x.feed('d', 1);
        x.feed(high | 'o', 1);
        x.feed(high | 'g' << 8 | ' ', 2);
        x.feed(high | 'i' << 16 | 'n' << 8 | '7', 3);
        Due.due("31 dog in7", x.count(5), 7);
        Due.due("31 dog in7", x.text(), 1);
        Due.due("31 dog in7", x.of(0, 0) * 10 + x.of(0, 1), 27);
        // Bytes of 128 and more are no letters, and the number's own sign tells nothing.
        x.feed(0xe4000000 | 'd' << 16 | 'o' << 8 | 'g', 3);
        Due.due("31 dog", x.text(), 1);
        x.feed(0xe4000000 | 'd' << 16 | 'o' << 8 | 'g', 4);
        Due.due("31 a byte of 228", x.text(), -1);
        for (int i = 1; i <= 120; i++) {
            Due.due("31 has", x.feed(' ', 1), i);
        }
        for (int n = 1; n <= 4; n++) {
            Due.due("31 full", x.feed(' ', n), Due.FULL);
        }
        Due.due("32 had", x.wipe(), 120);
        for (int room = 1; room <= 4; room++) {
            roomOnTheTape(room);
        }
    }

    private static void roomOnTheTape(int room) {
        for (int n = 1; n <= 4; n++) {
            GateManners x = new GateManners();
            Due.feedAll(x, " ".repeat(120 - room));
            Due.due("31 " + n + " with room for " + room, x.feed(0, n), n <= room ? 120 - room + n : Due.FULL);
            Due.due("32 had", x.wipe(), n <= room ? 120 - room + n : 120 - room);
        }
    }

    private static void aFullTape() {
        GateManners x = new GateManners();
        String text = "wind1;".repeat(20);
        Due.due("33 20 items in 119 bytes", Due.textOf(x, text.substring(0, 119)), 20);
        Due.due("33 20 items in 120 bytes", Due.textOf(x, " " + text.substring(0, 119)), 20);
        Due.due("33 the greatest fault", Due.textOf(x, text), -1 - 120);
        Due.due("33 120 blanks", Due.textOf(x, " ".repeat(120)), -1 - 120);
        Due.due("33 a long word", Due.textOf(x, "w".repeat(120)), -1);
        Due.due("33 a long number", Due.textOf(x, "wind " + "0".repeat(114) + "3"), 1);
        Due.due("33 a long number", x.wind(0), 3);
        Due.due("33 a long number", Due.textOf(x, "wind " + "9".repeat(115)), -1 - 5);
        Due.due("33 the last byte", Due.textOf(x, "wind1" + " ".repeat(114) + "x"), -1 - 119);
        Due.due("33 the last byte", Due.textOf(x, "ajar " + " ".repeat(114) + "7"), 1);
        Due.due("33 the last byte", x.stands(7), 1);
        Due.due("33 only signs", Due.textOf(x, ";".repeat(120)), -1);
    }

    private static void numbersAtTheirEdges() {
        for (String word : PlainModel.KIND_WORDS) {
            taken(word + " in 0");
            taken(word + " in 8");
            fault(word + " in 9", word.length() + 4);
            taken(word + " mood 0");
            taken(word + " mood 9");
            fault(word + " mood 10", word.length() + 6);
            fault(word + " in 9999", word.length() + 4);
            fault(word + " in 10000", word.length() + 4);
        }
        for (String word : PlainModel.GATE_WORDS) {
            taken(word + " 0");
            taken(word + " 7");
            fault(word + " 8", word.length() + 1);
            fault(word + " 9999", word.length() + 1);
        }
        taken("beasts 0 0");
        taken("beasts 8 9999");
        taken("beasts 00000008 000009999");
        fault("beasts 9 0", 7);
        fault("beasts 10000 0", 7);
        fault("beasts 0 10000", 9);
        fault("beasts 0 99999999999999999999", 9);
        taken("wind 0");
        taken("wind 9");
        fault("wind 10", 5);
        // These would be 0 and 1 as ints.
        fault("wind 4294967296", 5);
        fault("beasts 0 4294967297", 9);
    }

    private static void taken(String text) {
        Due.due("33 \"" + text + "\"", Due.textOf(new GateManners(), text), 1);
    }

    /** in, back, mood: each perhaps, in this order, and none of them twice. */
    private static void wordsOfAWalkerInTheirOrder() {
        for (int kind = 0; kind < 7; kind++) {
            for (int set = 0; set < 8; set++) {
                String in = (set & 1) == 0 ? "" : " in 6";
                String back = (set & 2) == 0 ? "" : " back";
                String mood = (set & 4) == 0 ? "" : " mood 7";
                String text = PlainModel.KIND_WORDS.get(kind) + in + back + mood;
                GateManners x = new GateManners();
                Due.due("33 " + text, Due.textOf(x, text), 1);
                Due.due("33 kind of " + text, x.of(0, 0), kind);
                Due.due("33 field of " + text, x.of(0, 1), in.isEmpty() ? 0 : 6);
                Due.due("33 way of " + text, x.of(0, 2), back.isEmpty() ? 0 : 1);
                Due.due("33 mood of " + text, x.of(0, 3), mood.isEmpty() ? 3 : 7);
                Due.due("33 passed of " + text, x.of(0, 4), 0);
            }
        }
        fault("mean mood 3 in 2", 12);
        fault("mean mood 3 mood 3", 12);
        fault("mean back mood 3 in 2", 17);
        fault("mean in 2 mood 3 back", 17);
        fault("mean in back", 8);
        fault("mean mood back", 10);
        fault("mean mood in 3", 10);
        fault("wind 3 back", 7);
        fault("open 3 in 3", 7);
        fault("beasts 3 4 mood 3", 11);
        fault("beasts in 3 4", 7);
        fault("beasts 3;4", 8);
    }

    /** A word with one letter changed, one less or one more is another word, wherever it stands. */
    private static void anotherWord() {
        String[] first = {"walker", "postman", "dog", "child", "stranger", "mean", "daughter", "shut", "ajar", "open",
            "propped", "beasts", "wind"};
        for (String word : first) {
            String rest = word.equals("beasts") ? " 3 3" : " 3";
            boolean walker = PlainModel.KIND_WORDS.contains(word);
            taken(walker ? word : word + rest);
            for (String other : othersOf(word)) {
                fault(other + rest, 0);
                fault("wind 1;" + other + rest, 7);
            }
        }
        String[] later = {"in", "back", "mood"};
        for (String word : later) {
            for (String other : othersOf(word)) {
                fault("dog " + other + " 3", 4);
            }
        }
    }

    private static List<String> othersOf(String word) {
        List<String> others = new ArrayList<>();
        for (int i = 0; i < word.length(); i++) {
            char letter = word.charAt(i) == 'z' ? 'a' : (char) (word.charAt(i) + 1);
            others.add(word.substring(0, i) + letter + word.substring(i + 1));
            others.add(word.substring(0, i) + word.substring(i + 1));
        }
        others.add(word + "s");
        others.add("a" + word);
        others.add(word + word);
        return others;
    }

    private static void bytesThatBeginNoToken() {
        for (int b = 0; b < 256; b++) {
            boolean begins = b >= 'a' && b <= 'z' || b >= '0' && b <= '9' || b == ';' || b == ' ';
            if (!begins) {
                String sign = String.valueOf((char) b);
                fault(sign, 0);
                fault("dog" + sign, 3);
                fault("wind 1 " + sign + " ;dog", 7);
                fault("wind" + sign + "1", 4);
                fault("wind 1" + sign, 6);
                fault("wind 1;" + sign + "dog", 7);
            }
        }
        // Both ends of the letters and of the digits are such.
        fault("a", 0);
        fault("z", 0);
        taken("beasts 0 9");
        Due.due("33 a blank", Due.textOf(new GateManners(), " dog "), 1);
    }

    private static void tokensAsLongAsCanBe() {
        fault("walkerin 3", 0);
        fault("walker inback", 7);
        fault("walker backmood 3", 7);
        fault("walker in 3 4", 12);
        fault("beasts 12", 7);
        fault("beasts 1 2 3", 11);
        taken("walker in3back mood3");
        taken("beasts1 2");
        Due.due("33 no blanks", Due.textOf(new GateManners(), "dog;mean;wind1;shut2"), 4);
        Due.due("33 many blanks", Due.textOf(new GateManners(), "  dog   in   3   ;   wind   1  "), 2);
    }

    /** How many bytes there are, blanks at the end too; without any it is 0. */
    private static void endsTooEarly() {
        String[] texts = {"", "dog in", "dog mood", "dog in 3 mood", "dog back mood", "shut", "ajar", "open", "propped",
            "beasts", "beasts 3", "wind", "dog;", "shut 1;", "beasts 1 2;", "wind 3;dog in 2;"};
        for (String text : texts) {
            fault(text, text.length());
            fault(text + " ", text.length() + 1);
            fault(text + "   ", text.length() + 3);
        }
    }

    /** Its own word's place, whatever stands behind it; any kind, and whoever came ahead by walker(). */
    private static void theNinthWalker() {
        for (String word : PlainModel.KIND_WORDS) {
            GateManners x = new GateManners();
            for (int i = 0; i < 8; i++) {
                x.walker(0, 0);
            }
            Due.due("33 a ninth", Due.textOf(x, word), -1);
            Due.due("33 a ninth", Due.textOf(x, "wind 3; " + word + " in 99 #"), -1 - 8);
            Due.due("33 no ninth came", x.count(1), 8);
            Due.due("33 nor wind", x.wind(0), 0);
        }
        GateManners x = new GateManners();
        String eight = "dog;".repeat(7) + "dog";
        Due.due("33 nine", Due.textOf(x, eight + ";mean"), -1 - 32);
        Due.due("33 none of them", x.count(1), 0);
        Due.due("33 eight", Due.textOf(x, eight), 8);
        Due.due("33 eight of them", x.count(1), 8);
        Due.due("33 nine no more", x.walker(0, 0), Due.FULL);
        Due.due("33 a ninth is told ahead of a later fault", Due.textOf(x, "dog in 9"), -1);
        Due.due("33 an earlier fault is told ahead of a ninth", Due.textOf(x, "shut 8;dog"), -1 - 5);
    }

    private static void tooManyWalkers() {
        GateManners x = new GateManners();
        for (int i = 0; i < 6; i++) {
            x.walker(0, 0);
        }
        Due.due("33 a 9th", Due.textOf(x, "dog;wind 3;dog;dog in 99"), -1 - 15);
        Due.due("33 none came", x.count(1), 6);
        Due.due("33 8", Due.textOf(x, "dog;wind 3;dog"), 3);
        Due.due("33 9th at once", Due.textOf(x, " dog"), -2);
        Due.due("33 an earlier fault", Due.textOf(x, "wind x;dog"), -6);
        Due.due("33 others go on", Due.textOf(x, "wind 4;open 3"), 2);
    }

    private static void nothingChangesWithAFault() {
        GateManners x = Due.farm("dog in 3;beasts 4 44;wind 4;ajar 4");
        Due.due("33 late fault", Due.textOf(x, "dog;beasts 4 1;wind 2;open 4;mean back 3"), -1 - 39);
        Due.due("33 walkers", x.count(1), 1);
        Due.due("33 beasts", x.field(4, 0), 44);
        Due.due("33 gate", x.stands(4), 1);
        Due.due("33 wind", x.wind(0), 4);
        Due.due("33 reads on", Due.textOf(x, "mean in 2"), 1);
        Due.due("33 the next one", x.of(1, 0), 5);
        Due.due("33 as at first", x.of(1, 2), 0);
    }
}
