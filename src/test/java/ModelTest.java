import java.lang.reflect.InvocationTargetException;
import java.lang.reflect.Method;
import java.lang.reflect.Modifier;
import java.util.ArrayList;
import java.util.Arrays;
import java.util.Comparator;
import java.util.List;
import java.util.Random;

/**
 * All promises: runs of calls by chance (always the same ones) against PlainModel, with right,
 * edge and far arguments. It also tells if a call throws.
 */
public final class ModelTest {
    private static final int RUNS = 1000;
    /** An object has 512 calls; a text takes at most 32 of them. */
    private static final int CALLS = 512 - 32;
    private static final int[] EDGES = {-2, -1, 0, 1, 2, 3, 4, 5, 6, 7, 8, 9, 10, 16, 20, 21, 32, 40, 41, 60, 61, 100, 101,
        9999, 10000, 65535, Integer.MAX_VALUE, Integer.MIN_VALUE, -1000001};
    private static final String[] PIECES = {"walker", "postman", "dog", "child", "stranger", "mean", "daughter", " in 3",
        " in 8", " back", " mood 7", " mood 4", ";", ";", ";", "shut 1", "ajar 2", "open 3", "propped 7", "propped 0",
        "beasts 2 500", "beasts 8 9999", "wind 6", "wind 8", "wind 10", " ", "in", "mood", "9", "10000", "x", "#", "beasts 1"};

    private static final Random CHANCE = new Random(20261117);
    private static int made = 0;

    public static void main(String[] args) {
        List<Method> face = face();
        for (int run = 0; run < RUNS; run++) {
            GateManners x = new GateManners();
            PlainModel model = new PlainModel();
            made = 0;
            furnish(x, model);
            while (made < CALLS) {
                if (CHANCE.nextInt(12) == 0) {
                    aText(x, model);
                } else {
                    Method method = face.get(CHANCE.nextInt(face.size()));
                    compare(x, model, method.getName(), arguments(method.getName(), method.getParameterCount()));
                }
            }
        }
        Due.end();
    }

    private static List<Method> face() {
        List<Method> face = new ArrayList<>();
        for (Method method : GateManners.class.getDeclaredMethods()) {
            if (Modifier.isPublic(method.getModifiers())) {
                face.add(method);
            }
        }
        // The order of reflection is free; the runs must not be.
        face.sort(Comparator.comparing(Method::getName));
        Due.due("methods of the face", face.size(), 44);
        return face;
    }

    private static void furnish(GateManners x, PlainModel model) {
        int walkers = CHANCE.nextInt(9);
        for (int i = 0; i < walkers; i++) {
            compare(x, model, "walker", CHANCE.nextInt(7), CHANCE.nextInt(9));
            compare(x, model, "change", i, 3, CHANCE.nextInt(10));
            compare(x, model, "change", i, 2, CHANCE.nextInt(2));
        }
        for (int f = 0; f < 9; f++) {
            compare(x, model, "beasts", f, CHANCE.nextInt(CHANCE.nextBoolean() ? 10000 : 100));
        }
        for (int g = 0; g < 8; g++) {
            compare(x, model, "gate", g, CHANCE.nextInt(4));
        }
        compare(x, model, "wind", CHANCE.nextInt(10));
        compare(x, model, "seed", CHANCE.nextInt());
        for (int s = 0; s < 3; s++) {
            int n = CHANCE.nextInt(12);
            compare(x, model, "sheet", s, 8 << CHANCE.nextInt(3), n);
            for (int i = 0; i < n; i++) {
                compare(x, model, "write", s, i, CHANCE.nextInt(3) == 0 ? CHANCE.nextInt(10) : -1);
            }
        }
    }

    /** Mostly what the call may be asked, sometimes an edge or a far number. */
    private static int[] arguments(String name, int many) {
        int[] most = mostOf(name);
        int[] a = new int[many];
        for (int i = 0; i < many; i++) {
            if (CHANCE.nextInt(14) == 0) {
                a[i] = EDGES[CHANCE.nextInt(EDGES.length)];
            } else if (most[i] < 0) {
                a[i] = CHANCE.nextInt();
            } else {
                a[i] = CHANCE.nextInt(most[i] + 1);
            }
        }
        boolean small = name.equals("write") || name.equals("sheet") || name.equals("change");
        if (small && CHANCE.nextInt(3) != 0) {
            a[many - 1] = name.equals("sheet") ? CHANCE.nextInt(13) : CHANCE.nextInt(11) - 1;
        }
        if (name.equals("sheet") && CHANCE.nextInt(8) != 0) {
            a[1] = 8 << CHANCE.nextInt(3);
        }
        return a;
    }

    private static int[] mostOf(String name) {
        switch (name) {
            case "beasts": case "corn": return new int[] {8, 9999};
            case "field": return new int[] {8, 1};
            case "gate": case "when": return new int[] {7, 3};
            case "stands": return new int[] {7};
            case "wind": return new int[] {9};
            case "walker": return new int[] {6, 8};
            case "of": return new int[] {7, 5};
            case "change": return new int[] {7, 4, 9999};
            case "leaves": return new int[] {7, 3, 1};
            case "go": return new int[] {CHANCE.nextInt(4) == 0 ? 60 : 3};
            case "now": return new int[] {5};
            case "ahead": return new int[] {8, 100};
            case "stand": return new int[] {7, 100};
            case "where": return new int[] {7, 3, 100};
            case "meet": return new int[] {7, 7};
            case "start": case "kindsFor": case "moods": return new int[] {7, 7, 3, CHANCE.nextBoolean() ? 3 : 40};
            case "windFor": return new int[] {8, CHANCE.nextBoolean() ? 9999 : 300, 40};
            case "home": return new int[] {8, CHANCE.nextBoolean() ? 9999 : 300, CHANCE.nextBoolean() ? 3 : 20};
            case "shut": return new int[] {8, CHANCE.nextBoolean() ? 3 : 40};
            case "who": case "load": case "judge": return new int[] {3};
            case "fits": return new int[] {3, 7, CHANCE.nextBoolean() ? 3 : 20};
            case "kinds": return new int[] {3, 7};
            case "gales": return new int[] {CHANCE.nextBoolean() ? 2 : 20};
            case "odds": return new int[] {20, 1};
            case "seed": return new int[] {-1};
            case "feed": return new int[] {-1, 4};
            case "hold": return new int[] {9, 7};
            case "as": return new int[] {9, 6};
            case "sheet": return new int[] {3, 32, 40};
            case "write": return new int[] {3, 12, -1};
            case "copy": return new int[] {3, 5, 3, 5, 6};
            case "count": return new int[] {7};
            case "status": return new int[] {6};
            default: return new int[0];
        }
    }

    private static void aText(GateManners x, PlainModel model) {
        StringBuilder text = new StringBuilder();
        int many = 1 + CHANCE.nextInt(6);
        boolean tidy = CHANCE.nextInt(3) != 0;
        for (int i = 0; i < many; i++) {
            if (tidy) {
                text.append(i == 0 ? "" : ";").append(anItem());
            } else {
                text.append(PIECES[CHANCE.nextInt(PIECES.length)]);
            }
        }
        if (CHANCE.nextInt(6) == 0 && text.length() > 0) {
            text.setCharAt(CHANCE.nextInt(text.length()), (char) CHANCE.nextInt(256));
        }
        compare(x, model, "wipe");
        int length = Math.min(text.length(), 120);
        for (int i = 0; i < length; i += 4) {
            int bytes = 0;
            int n = Math.min(4, length - i);
            for (int j = 0; j < n; j++) {
                bytes = bytes << 8 | text.charAt(i + j);
            }
            compare(x, model, "feed", bytes, n);
        }
        compare(x, model, "text");
    }

    private static String anItem() {
        int r = CHANCE.nextInt(14);
        if (r < 7) {
            String in = CHANCE.nextBoolean() ? " in " + CHANCE.nextInt(10) : "";
            String back = CHANCE.nextBoolean() ? " back" : "";
            String mood = CHANCE.nextBoolean() ? " mood " + CHANCE.nextInt(10) : "";
            return PlainModel.KIND_WORDS.get(r) + in + back + mood;
        }
        if (r < 11) {
            return PlainModel.GATE_WORDS.get(r - 7) + " " + CHANCE.nextInt(8);
        }
        return r == 11 ? "wind " + CHANCE.nextInt(10) : "beasts " + CHANCE.nextInt(9) + " " + CHANCE.nextInt(10005);
    }

    private static void compare(GateManners x, PlainModel model, String name, int... a) {
        made++;
        String call = name + Arrays.toString(a);
        long want = model.call(name, a);
        try {
            Class<?>[] types = new Class<?>[a.length];
            Arrays.fill(types, int.class);
            Object[] boxed = new Object[a.length];
            for (int i = 0; i < a.length; i++) {
                boxed[i] = a[i];
            }
            Object got = GateManners.class.getMethod(name, types).invoke(x, boxed);
            Due.due(call, ((Number) got).longValue(), want);
        } catch (InvocationTargetException e) {
            System.out.println(call + " threw " + e.getCause());
            Due.due(call + " throws", 1, 0);
        } catch (ReflectiveOperationException e) {
            Due.due(call + " is not in the face", 1, 0);
        }
    }
}
