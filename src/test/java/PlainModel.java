import java.math.BigInteger;
import java.util.ArrayList;
import java.util.HashMap;
import java.util.List;
import java.util.Map;
import java.util.function.Predicate;
import java.util.regex.Matcher;
import java.util.regex.Pattern;

/**
 * The document told a second time, with the Java library and without any care for speed, so that
 * ModelTest can compare whole runs. It shares no code with the class.
 */
final class PlainModel {
    /** A finding on its way to the caller. */
    static final class Found extends RuntimeException {
        private static final long serialVersionUID = 1L;
        final int which;

        Found(int which) {
            this.which = which;
        }
    }

    static class Kind {
        int leaves(int s, int mood, int wind) {
            return wind >= 5 ? 0 : s;
        }

        int feels(int s, int mood) {
            return mood;
        }

        int goes(int mood) {
            return 1;
        }
    }

    static class Postman extends Kind {
        @Override
        int leaves(int s, int mood, int wind) {
            return 3;
        }

        @Override
        int feels(int s, int mood) {
            return 9;
        }

        @Override
        int goes(int mood) {
            return 2;
        }
    }

    static final class Daughter extends Postman {
        @Override
        int leaves(int s, int mood, int wind) {
            return s == 0 ? 1 : super.leaves(s, mood, wind);
        }

        @Override
        int feels(int s, int mood) {
            return super.feels(s, mood) - s;
        }
    }

    static class Dog extends Kind {
        @Override
        int leaves(int s, int mood, int wind) {
            int that = super.leaves(s, mood, wind);
            return that == 1 ? 2 : that;
        }

        @Override
        int feels(int s, int mood) {
            return Math.min(9, mood + s);
        }

        @Override
        int goes(int mood) {
            return mood >= 5 ? 3 : 1;
        }
    }

    static class Child extends Dog {
        @Override
        int leaves(int s, int mood, int wind) {
            return (super.leaves(s, mood, wind) + mood) % 4;
        }

        @Override
        int feels(int s, int mood) {
            return Math.min(9, super.feels(s, mood) + 1);
        }

        @Override
        int goes(int mood) {
            return super.goes(mood) - 1;
        }
    }

    static final class Stranger extends Child {
        @Override
        int leaves(int s, int mood, int wind) {
            return 3 - super.leaves(s, mood, wind);
        }

        @Override
        int feels(int s, int mood) {
            return super.feels(s, mood) / 2;
        }
    }

    static final class Mean extends Kind {
        @Override
        int leaves(int s, int mood, int wind) {
            return 0;
        }

        @Override
        int feels(int s, int mood) {
            return Math.max(0, mood - 1);
        }
    }

    static final Kind[] KINDS = {new Kind(), new Postman(), new Dog(), new Child(), new Stranger(), new Mean(), new Daughter()};
    static final List<String> KIND_WORDS = List.of("walker", "postman", "dog", "child", "stranger", "mean", "daughter");
    static final List<String> GATE_WORDS = List.of("shut", "ajar", "open", "propped");

    static final class Walker {
        int kind;
        int field;
        int way;
        int mood = 3;
        int passed;
        boolean home;

        Walker copy() {
            Walker w = new Walker();
            w.kind = kind;
            w.field = field;
            w.way = way;
            w.mood = mood;
            w.passed = passed;
            w.home = home;
            return w;
        }
    }

    static final class World {
        int[] beasts = new int[9];
        int[] gates = new int[8];
        int wind;
        int hour;
        int z = 1;
        List<Walker> walkers = new ArrayList<>();
        Map<Integer, Integer> spots = new HashMap<>();

        World copy() {
            World w = new World();
            w.beasts = beasts.clone();
            w.gates = gates.clone();
            w.wind = wind;
            w.hour = hour;
            w.z = z;
            for (Walker k : walkers) {
                w.walkers.add(k.copy());
            }
            w.spots.putAll(spots);
            return w;
        }

        World after(int n) {
            World w = copy();
            for (int i = 0; i < n; i++) {
                w.hour();
            }
            return w;
        }

        void hour() {
            for (Walker w : walkers) {
                int n = w.home ? 0 : KINDS[w.kind].goes(w.mood);
                while (n-- > 0) {
                    step(w);
                }
            }
            int[] more = new int[9];
            for (int g = 0; g < 8; g++) {
                int high = beasts[g] > beasts[g + 1] ? g : g + 1;
                int low = high == g ? g + 1 : g;
                int part = gates[g] >= 2 ? 4 : gates[g] == 1 ? 16 : Integer.MAX_VALUE;
                int moved = (beasts[high] - beasts[low]) / part;
                more[high] -= moved;
                more[low] += moved;
            }
            for (int f = 0; f < 9; f++) {
                beasts[f] += more[f];
            }
            for (int g = 0; g < 8; g++) {
                if (wind >= 7 && (gates[g] == 1 || gates[g] == 2)) {
                    gates[g] = 0;
                }
            }
            hour = Math.min(99999, hour + 1);
        }

        void step(Walker w) {
            int to = w.way == 0 ? w.field + 1 : w.field - 1;
            if (to < 0 || to > 8) {
                w.way = w.way == 0 ? 1 : 0;
                return;
            }
            int g = Math.min(to, w.field);
            int s = gates[g];
            int mood = w.mood;
            gates[g] = KINDS[w.kind].leaves(s, mood, wind);
            w.mood = KINDS[w.kind].feels(s, mood);
            w.field = to;
            w.passed = Math.min(9999, w.passed + 1);
        }

        int draw() {
            z = z * 1103515245 + 12345;
            return z >>> 8;
        }

        int notShut() {
            int set = 0;
            for (int g = 0; g < 8; g++) {
                set += gates[g] == 0 ? 0 : 1 << g;
            }
            return set;
        }

        int byFour() {
            int sum = 0;
            for (int g = 0; g < 8; g++) {
                sum += gates[g] << 2 * g;
            }
            return sum;
        }

        int total() {
            int sum = 0;
            for (int b : beasts) {
                sum += b;
            }
            return sum;
        }

        int passed() {
            int sum = 0;
            for (Walker w : walkers) {
                sum += w.passed;
            }
            return sum;
        }

        void alone(int walker) {
            for (int i = 0; i < walkers.size(); i++) {
                walkers.get(i).home = i != walker;
            }
        }
    }

    World now = new World();
    World image;
    StringBuilder tape = new StringBuilder();
    int[][] sheets = new int[4][];
    int[] bits = new int[4];
    int[] found = new int[7];

    long call(String name, int[] a) {
        try {
            return answer(name, a);
        } catch (Found f) {
            found[f.which]++;
            return -1000001L - f.which;
        }
    }

    static void need(boolean fine, int which) {
        if (!fine) {
            throw new Found(which);
        }
    }

    static void in(int v, int least, int most) {
        need(least <= v && v <= most, 0);
    }

    Walker w(int walker) {
        in(walker, 0, now.walkers.size() - 1);
        return now.walkers.get(walker);
    }

    int[] row(int s) {
        in(s, 0, 3);
        need(sheets[s] != null, 5);
        return sheets[s];
    }

    static boolean told(int[] row, World w) {
        for (int i = 0; i < 8 && i < row.length; i++) {
            if (row[i] != -1 && row[i] != w.gates[i]) {
                return false;
            }
        }
        return true;
    }

    static int get(Walker w, int what) {
        return new int[] {w.kind, w.field, w.way, w.mood, w.passed, KINDS[w.kind].goes(w.mood)}[what];
    }

    static void set(Walker w, int what, int v) {
        switch (what) {
            case 0 -> w.kind = v;
            case 1 -> w.field = v;
            case 2 -> w.way = v;
            case 3 -> w.mood = v;
            default -> w.passed = v;
        }
    }

    int first(Predicate<World> is) {
        World w = now.copy();
        for (int n = 0; n <= 100; n++) {
            if (is.test(w)) {
                return n;
            }
            w.hour();
        }
        throw new Found(3);
    }

    int wishes(int[] a, int what, int most) {
        w(a[0]);
        in(a[1], 0, 7);
        in(a[2], 0, 3);
        in(a[3], 0, 40);
        int set = 0;
        for (int v = 0; v <= most; v++) {
            World w = now.copy();
            set(w.walkers.get(a[0]), what, v);
            set |= w.after(a[3]).gates[a[1]] == a[2] ? 1 << v : 0;
        }
        return set;
    }

    long answer(String name, int[] a) {
        switch (name) {
            case "beasts": {
                in(a[0], 0, 8);
                in(a[1], 0, 9999);
                int was = now.beasts[a[0]];
                now.beasts[a[0]] = a[1];
                return was;
            }
            case "field": {
                in(a[0], 0, 8);
                in(a[1], 0, 1);
                int set = 0;
                for (int i = 0; i < now.walkers.size(); i++) {
                    set |= now.walkers.get(i).field == a[0] ? 1 << i : 0;
                }
                return a[1] == 0 ? now.beasts[a[0]] : set;
            }
            case "gate": {
                in(a[0], 0, 7);
                in(a[1], 0, 3);
                int was = now.gates[a[0]];
                now.gates[a[0]] = a[1];
                return was;
            }
            case "stands":
                in(a[0], 0, 7);
                return now.gates[a[0]];
            case "wind": {
                in(a[0], 0, 9);
                int was = now.wind;
                now.wind = a[0];
                return was;
            }
            case "walker": {
                in(a[0], 0, 6);
                in(a[1], 0, 8);
                need(now.walkers.size() < 8, 1);
                Walker w = new Walker();
                w.kind = a[0];
                w.field = a[1];
                now.walkers.add(w);
                return now.walkers.size() - 1;
            }
            case "of":
                w(a[0]);
                in(a[1], 0, 5);
                return get(w(a[0]), a[1]);
            case "change": {
                w(a[0]);
                in(a[1], 0, 4);
                in(a[2], 0, List.of(6, 8, 1, 9, 9999).get(a[1]));
                int was = get(w(a[0]), a[1]);
                set(w(a[0]), a[1], a[2]);
                return was;
            }
            case "leaves": {
                Walker w = w(a[0]);
                in(a[1], 0, 3);
                in(a[2], 0, 1);
                return a[2] == 0 ? KINDS[w.kind].leaves(a[1], w.mood, now.wind) : KINDS[w.kind].feels(a[1], w.mood);
            }
            case "go":
                in(a[0], 1, 60);
                need(now.hour + a[0] <= 99999, 4);
                now = now.after(a[0]);
                return now.byFour();
            case "now": {
                in(a[0], 0, 5);
                int best = 0;
                for (int f = 8; f >= 0; f--) {
                    best = now.beasts[f] >= now.beasts[best] ? f : best;
                }
                for (int f = 8; f >= 0; f--) {
                    best = now.beasts[f] == now.beasts[best] ? f : best;
                }
                return new int[] {now.hour, now.total(), now.notShut(), now.byFour(), now.passed(), best}[a[0]];
            }
            default:
                return laterAnswer(name, a);
        }
    }

    long laterAnswer(String name, int[] a) {
        switch (name) {
            case "ahead":
                in(a[0], 0, 8);
                in(a[1], 0, 100);
                return now.after(a[1]).beasts[a[0]];
            case "stand":
                in(a[0], 0, 7);
                in(a[1], 0, 100);
                return now.after(a[1]).gates[a[0]];
            case "where":
                w(a[0]);
                need(a[1] == 1 || a[1] == 3, 0);
                in(a[2], 0, 100);
                return get(now.after(a[2]).walkers.get(a[0]), a[1]);
            case "corn":
                in(a[0], 0, 8);
                in(a[1], 0, 9999);
                return first(w -> w.beasts[a[0]] >= a[1]);
            case "when":
                in(a[0], 0, 7);
                in(a[1], 0, 3);
                return first(w -> w.gates[a[0]] == a[1]);
            case "meet":
                w(a[0]);
                w(a[1]);
                need(a[0] != a[1], 0);
                return first(w -> w.walkers.get(a[0]).field == w.walkers.get(a[1]).field);
            case "start": {
                int set = wishes(a, 1, 8);
                need(set != 0, 3);
                int f = 0;
                while ((set & 1 << f) == 0) {
                    f++;
                }
                return f;
            }
            case "kindsFor":
                return wishes(a, 0, 6);
            case "moods":
                return wishes(a, 3, 9);
            case "windFor":
                in(a[0], 0, 8);
                in(a[1], 0, 9999);
                in(a[2], 0, 40);
                for (int v = 0; v <= 9; v++) {
                    World w = now.copy();
                    w.wind = v;
                    if (w.after(a[2]).beasts[a[0]] <= a[1]) {
                        return v;
                    }
                }
                throw new Found(3);
            case "home":
                return home(a);
            case "shut": {
                in(a[0], 0, 8);
                in(a[1], 0, 40);
                int[] left = new int[8];
                int best = 7;
                for (int g = 7; g >= 0; g--) {
                    World w = now.copy();
                    w.gates[g] = 0;
                    left[g] = w.after(a[1]).beasts[a[0]];
                    best = left[g] <= left[best] ? g : best;
                }
                return best;
            }
            default:
                return whoAnswer(name, a);
        }
    }

    long home(int[] a) {
        in(a[0], 0, 8);
        in(a[1], 0, 9999);
        in(a[2], 0, 20);
        int best = -1;
        for (int set = 0; set < 1 << now.walkers.size(); set++) {
            World w = now.copy();
            for (int i = 0; i < w.walkers.size(); i++) {
                w.walkers.get(i).home = (set & 1 << i) != 0;
            }
            boolean fine = w.after(a[2]).beasts[a[0]] <= a[1];
            if (fine && (best < 0 || Integer.bitCount(set) < Integer.bitCount(best))) {
                best = set;
            }
        }
        need(best >= 0, 3);
        return best;
    }

    long whoAnswer(String name, int[] a) {
        switch (name) {
            case "who": {
                int[] row = row(a[0]);
                int set = 0;
                for (int i = 0; i < now.walkers.size(); i++) {
                    World w = now.copy();
                    w.alone(i);
                    set |= told(row, w.after(1)) ? 1 << i : 0;
                }
                return set;
            }
            case "fits": {
                int[] row = row(a[0]);
                w(a[1]);
                in(a[2], 0, 20);
                int set = 0;
                for (int f = 0; f < 9; f++) {
                    World w = now.copy();
                    w.alone(a[1]);
                    w.walkers.get(a[1]).field = f;
                    set |= told(row, w.after(a[2])) ? 1 << f : 0;
                }
                return set;
            }
            case "kinds": {
                int[] row = row(a[0]);
                w(a[1]);
                int set = 0;
                for (int k = 0; k < 7; k++) {
                    boolean fine = true;
                    World w = now.copy();
                    w.walkers.get(a[1]).kind = k;
                    for (int i = 0; i < row.length; i++) {
                        fine &= row[i] == -1 || row[i] == w.after(i).walkers.get(a[1]).mood;
                    }
                    set |= fine ? 1 << k : 0;
                }
                return set;
            }
            case "gales":
                in(a[0], 1, 20);
                need(now.hour + a[0] <= 99999, 4);
                for (int i = 0; i < a[0]; i++) {
                    now.wind = now.draw() % 10;
                    now.gates[now.draw() % 8] = 2;
                    now.hour();
                }
                return now.notShut();
            case "odds": {
                in(a[0], 0, 20);
                in(a[1], 0, 1);
                BigInteger above = BigInteger.valueOf(Integer.bitCount(now.notShut())).pow(a[0]);
                BigInteger below = BigInteger.valueOf(8).pow(a[0]);
                return (a[1] == 0 ? above : below).divide(above.gcd(below)).longValueExact();
            }
            case "seed": {
                int was = now.z;
                now.z = a[0];
                return was;
            }
            case "feed":
                in(a[1], 1, 4);
                need(tape.length() + a[1] <= 120, 1);
                for (int i = 0; i < a[1]; i++) {
                    tape.append((char) (a[0] >> 8 * (a[1] - 1 - i) & 255));
                }
                return tape.length();
            case "wipe": {
                int had = tape.length();
                tape.setLength(0);
                return had;
            }
            case "text":
                return text();
            default:
                return sheetAnswer(name, a);
        }
    }

    private World draft;
    private List<String> tokens;
    private List<Integer> places;
    private int at;

    /** A fault on its way out of the reader. */
    static final class Fault extends RuntimeException {
        private static final long serialVersionUID = 1L;
    }

    long text() {
        String all = tape.toString();
        tape.setLength(0);
        tokens = new ArrayList<>();
        places = new ArrayList<>();
        Matcher m = Pattern.compile("[a-z]+|[0-9]+|[^ ]", Pattern.DOTALL).matcher(all);
        while (m.find()) {
            tokens.add(m.group());
            places.add(m.start());
        }
        tokens.add("");
        places.add(all.length());
        at = 0;
        draft = now.copy();
        int items = 0;
        try {
            do {
                item();
                items++;
            } while (take(";"));
            if (!tokens.get(at).isEmpty()) {
                throw new Fault();
            }
        } catch (Fault f) {
            return -1 - places.get(at);
        }
        now = draft;
        return items;
    }

    boolean take(String word) {
        if (tokens.get(at).equals(word)) {
            at++;
            return true;
        }
        return false;
    }

    int number(int most) {
        String token = tokens.get(at);
        if (!token.matches("[0-9]+") || new BigInteger(token).compareTo(BigInteger.valueOf(most)) > 0) {
            throw new Fault();
        }
        at++;
        return Integer.parseInt(token);
    }

    void item() {
        String word = tokens.get(at);
        if (KIND_WORDS.contains(word)) {
            if (draft.walkers.size() == 8) {
                throw new Fault();
            }
            at++;
            Walker w = new Walker();
            w.kind = KIND_WORDS.indexOf(word);
            w.field = take("in") ? number(8) : 0;
            w.way = take("back") ? 1 : 0;
            w.mood = take("mood") ? number(9) : 3;
            draft.walkers.add(w);
        } else if (GATE_WORDS.contains(word)) {
            at++;
            draft.gates[number(7)] = GATE_WORDS.indexOf(word);
        } else if (take("beasts")) {
            int f = number(8);
            draft.beasts[f] = number(9999);
        } else if (take("wind")) {
            draft.wind = number(9);
        } else {
            throw new Fault();
        }
    }

    long sheetAnswer(String name, int[] a) {
        switch (name) {
            case "hold":
                in(a[0], 0, 9);
                in(a[1], -1, now.walkers.size() - 1);
                now.spots.put(a[0], a[1]);
                now.spots.remove(a[0], -1);
                return 1;
            case "as":
                in(a[0], 0, 9);
                in(a[1], 0, 6);
                need(now.spots.containsKey(a[0]), 5);
                need(KINDS[a[1]].getClass().isInstance(KINDS[w(now.spots.get(a[0])).kind]), 2);
                return now.spots.get(a[0]);
            case "sheet":
                in(a[0], 0, 3);
                need(List.of(0, 8, 16, 32).contains(a[1]), 0);
                need(a[2] >= 0, 6);
                in(a[2], 0, 40);
                sheets[a[0]] = a[1] == 0 ? null : new int[a[2]];
                bits[a[0]] = a[1];
                return a[1] == 0 ? 0 : a[2];
            case "write": {
                int[] row = row(a[0]);
                in(a[1], 0, row.length - 1);
                int cut = 32 - bits[a[0]];
                row[a[1]] = a[2] << cut >> cut;
                return 1;
            }
            case "copy": {
                in(a[0], 0, 3);
                in(a[2], 0, 3);
                int[] from = row(a[0]).clone();
                int[] to = row(a[2]);
                need(bits[a[0]] == bits[a[2]], 2);
                need(a[1] >= 0 && a[3] >= 0 && a[4] >= 0, 0);
                need((long) a[1] + a[4] <= from.length && (long) a[3] + a[4] <= to.length, 0);
                for (int i = 0; i < a[4]; i++) {
                    to[a[3] + i] = from[a[1] + i];
                }
                return a[4];
            }
            case "load": {
                int came = 0;
                for (int v : row(a[0])) {
                    if (v < 0 || v > 9999 || came == 9) {
                        break;
                    }
                    now.beasts[came++] = v;
                }
                return came;
            }
            case "judge": {
                int[] row = row(a[0]);
                int same = 0;
                while (same < row.length && same < 8 && row[same] == now.gates[same]) {
                    same++;
                }
                return same == row.length ? 0 : 1 + same;
            }
            case "image":
                image = now.copy();
                return 1;
            case "undo":
                need(image != null, 3);
                now = image.copy();
                return now.hour;
            case "tear": {
                int was = image == null ? 0 : 1;
                image = null;
                return was;
            }
            case "count":
                in(a[0], 0, 7);
                return new int[] {now.hour, now.walkers.size(), Integer.bitCount(now.notShut()), now.total(), now.passed(),
                    tape.length(), now.z, now.spots.size()}[a[0]];
            case "status": {
                in(a[0], -1, 6);
                int all = 0;
                for (int f : found) {
                    all += f;
                }
                return a[0] < 0 ? all : found[a[0]];
            }
            default:
                throw new IllegalStateException(name);
        }
    }
}
