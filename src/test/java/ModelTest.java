import java.lang.reflect.Method;
import java.util.ArrayList;
import java.util.List;
import java.util.Map;
import java.util.Random;
import java.util.TreeMap;

/** Random runs of at most 512 calls, each call asked of the class and of the Model. */
public final class ModelTest {
    private static final int RUNS = 600, CALLS = 512;
    private static final Map<String, Method> MODEL = new TreeMap<>();
    private static final List<Method> FACE = new ArrayList<>();
    private static final Map<String, Integer> ANSWERED = new TreeMap<>();

    private final Random random;
    private final TwoTowns x = new TwoTowns();
    private final Model model = new Model();
    private final StringBuilder told = new StringBuilder();
    private int calls = 0;
    private boolean right = true;

    private ModelTest(long seed) {
        random = new Random(seed);
    }

    public static void main(String[] args) throws Exception {
        for (Method m : TwoTowns.class.getDeclaredMethods()) {
            if (java.lang.reflect.Modifier.isPublic(m.getModifiers())) FACE.add(m);
        }
        FACE.sort((a, b) -> a.getName().compareTo(b.getName()));
        for (Method m : FACE) {
            Method other = Model.class.getDeclaredMethod(m.getName(), m.getParameterTypes());
            MODEL.put(m.getName(), other);
        }
        int wrong = 0;
        for (int run = 0; run < RUNS && wrong < 5; run++) {
            ModelTest test = new ModelTest(run);
            test.run();
            if (!test.right) {
                wrong++;
                System.out.println("run " + run + ":" + test.told);
            }
        }
        for (Method m : FACE) {
            if (ANSWERED.getOrDefault(m.getName(), 0) == 0) {
                wrong++;
                System.out.println(m.getName() + " never answered but by a refusal");
            }
        }
        System.out.println(ANSWERED);
        System.out.println(wrong == 0 ? "the class answers as the model" : "the class and the model differ");
        if (wrong != 0) System.exit(1);
    }

    private void run() throws Exception {
        if (random.nextInt(4) != 0) takeText();
        while (right && calls < CALLS) {
            switch (random.nextInt(40)) {
                case 0: takeText(); break;
                case 1: case 2: trueReading(); break;
                case 3: call("back", random.nextInt(4)); break;
                case 4: call("away", random.nextInt(6), random.nextInt(3) != 0); break;
                case 5: rowOfPersons(); break;
                default: anyCall(); break;
            }
        }
    }

    private long call(String name, Object... args) throws Exception {
        if (calls >= CALLS || !right) return 0;
        calls++;
        Method m = null;
        for (Method face : FACE) {
            if (face.getName().equals(name)) m = face;
        }
        long got = ((Number) m.invoke(x, args)).longValue();
        long want = ((Number) MODEL.get(name).invoke(model, args)).longValue();
        told.append("\n  ").append(name).append(java.util.Arrays.toString(args)).append(" ").append(got);
        if (got != want) {
            right = false;
            told.append(", due is ").append(want);
        }
        if (got >= 0) ANSWERED.merge(name, 1, Integer::sum);
        return got;
    }

    private void anyCall() throws Exception {
        Method m = FACE.get(random.nextInt(FACE.size()));
        Object[] args = new Object[m.getParameterCount()];
        for (int k = 0; k < args.length; k++) {
            args[k] = m.getParameterTypes()[k] == boolean.class ? (Object) random.nextBoolean() : (Object) number();
        }
        if (m.getName().equals("houses")) args[3] = random.nextInt(70) - 2;
        call(m.getName(), args);
    }

    private int number() {
        int[] far = {-1, -2, 14, 15, 60, 61, 99, 100, 255, 256, Integer.MAX_VALUE, Integer.MIN_VALUE};
        int which = random.nextInt(20);
        if (which < 10) return random.nextInt(3);
        if (which < 15) return random.nextInt(6);
        if (which < 18) return random.nextInt(14);
        return which == 18 ? random.nextInt(64) : far[random.nextInt(far.length)];
    }

    private void takeText() throws Exception {
        String text = text();
        int sheet = random.nextInt(4), lane = random.nextInt(3), from = random.nextInt(5);
        call("sheet", sheet, lane, from + text.length());
        for (int k = 0; k < text.length(); k++) {
            call("put", sheet, from + k, (int) text.charAt(k));
        }
        call("houses", sheet, lane, from, text.length());
    }

    private String text() {
        StringBuilder text = new StringBuilder("u");
        int seam = 1 + random.nextInt(13);
        text.append(seam / 10).append(seam % 10);
        int houses = 1 + random.nextInt(random.nextBoolean() ? 2 : 4), persons = 1 + random.nextInt(6);
        int wood = random.nextInt(3) == 0 ? 10 : 4;
        for (int h = 0; h < houses; h++) {
            text.append(';').append(random.nextInt(wood)).append(random.nextInt(10)).append(1 + random.nextInt(9));
        }
        int burns = 1 + random.nextInt(6);
        for (int p = 0; p < persons; p++) {
            text.append(',').append("dhf".charAt(random.nextInt(3))).append(random.nextInt(2));
            text.append(random.nextInt(houses)).append(random.nextInt(burns)).append(random.nextInt(10));
        }
        if (random.nextInt(4) == 0) {
            int k = random.nextInt(text.length());
            switch (random.nextInt(3)) {
                case 0: text.setLength(k); break;
                case 1: text.setCharAt(k, "u0123456789;,dhf:/x".charAt(random.nextInt(19))); break;
                default: text.insert(k, "u0123456789;,dhf:/x".charAt(random.nextInt(19))); break;
            }
        }
        if (text.length() > 55) text.setLength(55);
        return text.toString();
    }

    private void trueReading() throws Exception {
        int h = random.nextInt(2), week = random.nextInt(10), half = random.nextInt(14);
        long wear = call("wear", h, week, half);
        if (wear >= 0) call("reading", h, week, half, (int) wear + (random.nextInt(3) == 0 ? 1 : 0));
        call("gone");
        call("seams");
        call("kinds", random.nextInt(6));
    }

    private void rowOfPersons() throws Exception {
        int sheet = random.nextInt(4), lane = random.nextInt(3), n = random.nextInt(17);
        call("sheet", sheet, lane, n);
        for (int k = 0; k < n; k++) {
            call("put", sheet, k, random.nextInt(random.nextInt(3) == 0 ? 7 : 2));
        }
        call("row", sheet, lane, 0, n);
    }
}
