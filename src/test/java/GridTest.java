import java.lang.reflect.InvocationTargetException;
import java.lang.reflect.Method;
import java.lang.reflect.Modifier;
import java.util.Arrays;
import java.util.Map;
import java.util.TreeMap;

/** Each call with every choice of numbers from a list, in four states, asked of the class and of the Model. */
public final class GridTest {
    private static final int MIN = Integer.MIN_VALUE, MAX = Integer.MAX_VALUE, CALLS = 512;
    private static final String FULLEST = "u06;303;052;991;204,d0012,h1013,f0110,d1229,h1304,f0055";
    private static final String SMALL = "u07;203,h0012";
    private static final String[] STATES = {"new", "no houses", SMALL, FULLEST};
    /** By how many numbers a call takes: those that each of them is tried with. */
    private static final int[][] TRIED = {{},
        {MIN, -100, -2, -1, 0, 1, 2, 3, 4, 5, 6, 7, 8, 9, 12, 13, 14, 15, 60, 99, 100, 65536, MAX},
        {MIN, -2, -1, 0, 1, 2, 3, 4, 5, 6, 7, 9, 10, 13, 14, 60, 99, 100, MAX},
        {MIN, -1, 0, 1, 2, 3, 4, 5, 6, 9, 10, 13, 14, 60, 61, 99, 100, MAX},
        {MIN, -1, 0, 1, 2, 3, 4, 9, 10, 13, 14, 15, 99, 100, MAX},
        {MIN, -1, 0, 1, 2, 3, 4, 15, MAX}};

    private final String state;
    private final Map<String, Method> modelled = new TreeMap<>();
    private TwoTowns x;
    private Model model;
    private int calls;
    private int asked = 0;
    private int wrong = 0;

    private GridTest(String state) throws Exception {
        this.state = state;
        for (Method method : TwoTowns.class.getDeclaredMethods()) {
            if (Modifier.isPublic(method.getModifiers())) {
                modelled.put(method.getName(),
                    Model.class.getDeclaredMethod(method.getName(), method.getParameterTypes()));
            }
        }
    }

    public static void main(String[] args) throws Exception {
        int asked = 0;
        int wrong = 0;
        for (String state : STATES) {
            GridTest test = new GridTest(state);
            for (Method method : TwoTowns.class.getDeclaredMethods()) {
                if (Modifier.isPublic(method.getModifiers())) {
                    test.begin();
                    test.tryAll(method, new Object[method.getParameterCount()], 0);
                }
            }
            asked += test.asked;
            wrong += test.wrong;
        }
        System.out.println(asked + " answers, " + wrong + " not as due");
        if (wrong != 0) {
            System.exit(1);
        }
    }

    private void tryAll(Method method, Object[] args, int from) throws Exception {
        if (from == args.length) {
            if (calls + 2 > CALLS) {
                begin();
            }
            ask(method, args);
            ask(TwoTowns.class.getMethod("fault"));
            return;
        }
        if (method.getParameterTypes()[from] == boolean.class) {
            args[from] = true;
            tryAll(method, args, from + 1);
            args[from] = false;
            tryAll(method, args, from + 1);
            return;
        }
        for (int number : TRIED[args.length]) {
            args[from] = number;
            tryAll(method, args, from + 1);
        }
    }

    private void ask(Method method, Object... args) throws Exception {
        calls++;
        asked++;
        long want = ((Number) modelled.get(method.getName()).invoke(model, args)).longValue();
        try {
            long got = ((Number) method.invoke(x, args)).longValue();
            if (got != want) {
                tellWrong(method, args, "answered " + got + ", due is " + want);
            }
        } catch (InvocationTargetException thrown) {
            tellWrong(method, args, "threw " + thrown.getCause());
        }
    }

    private void tellWrong(Method method, Object[] args, String what) {
        if (wrong++ < 20) {
            System.out.println(state + ": " + method.getName() + Arrays.toString(args) + " " + what);
        }
    }

    private void begin() {
        x = new TwoTowns();
        model = new Model();
        calls = 0;
        if (state.equals("new")) {
            return;
        }
        if (!state.equals("no houses")) {
            write(3, 2, state);
            calls++;
            int houses = x.houses(3, 2, 0, state.length());
            if (houses < 1 || houses != model.houses(3, 2, 0, state.length())) {
                wrong++;
                System.out.println(state + " is not taken: " + houses);
            }
        }
        write(0, 0, "\0\0\1");
        write(1, 1, "\0\0\0\0\0\0\0\0\0\0\0\0\0\0\0");
        write(2, 2, "");
        if (state.equals(FULLEST)) {
            calls += 3;
            x.away(2, true);
            model.away(2, true);
            x.gift(1, 0, 40);
            model.gift(1, 0, 40);
            x.reading(3, 0, 13, 14);
            model.reading(3, 0, 13, 14);
        }
    }

    private void write(int sheet, int lane, String codes) {
        calls += 1 + codes.length();
        x.sheet(sheet, lane, codes.length());
        model.sheet(sheet, lane, codes.length());
        for (int k = 0; k < codes.length(); k++) {
            x.put(sheet, k, codes.charAt(k));
            model.put(sheet, k, codes.charAt(k));
        }
    }
}
