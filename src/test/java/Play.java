import java.lang.reflect.Method;
import java.lang.reflect.Modifier;
import java.util.ArrayList;
import java.util.List;
import java.util.Map;
import java.util.Set;
import java.util.TreeMap;

/** A run of calls on one object, told as texts like "gift(0,9,99)", so that it can be played on another one. */
final class Play {
    static final int UNKNOWN = -1, OUTSIDE = -2, STATE = -3, FULL = -4, NONE = -9;
    static final int NULL = -11, CAST = -12, INDEX = -13, SIZE = -14;
    private static final int MOST_CALLS = 512;
    private static final Set<String> NAME_FAULTS = Set.of("houses", "row", "sheet", "put", "cell", "copy", "as");
    private static final Map<String, Method> FACE = face();

    private final Check check;
    private final TwoTowns x = new TwoTowns();
    private final List<String> played = new ArrayList<>();
    private int calls = 0;

    Play(Check check) {
        this.check = check;
    }

    /** A new object with this TEXT taken, which stays on sheet 0 as bytes. */
    Play(Check check, String text) {
        this(check);
        take(text);
    }

    void take(String text) {
        write(0, 0, 0, text);
        due("houses(0,0,0," + text.length() + ")", text.split(";").length - 1);
    }

    /** A new row on a sheet that ends with these codes. */
    void write(int sheet, int lane, int from, String text) {
        due("sheet(" + sheet + "," + lane + "," + (from + text.length()) + ")", 1);
        for (int k = 0; k < text.length(); k++) {
            due("put(" + sheet + "," + (from + k) + "," + (int) text.charAt(k) + ")", 1);
        }
    }

    /** A new row on a sheet of these numbers. */
    void fill(int sheet, int lane, int... cells) {
        due("sheet(" + sheet + "," + lane + "," + cells.length + ")", 1);
        for (int k = 0; k < cells.length; k++) {
            due("put(" + sheet + "," + k + "," + cells[k] + ")", 1);
        }
    }

    void due(String call, long want) {
        played.add(call);
        check.due(call, answer(call), want);
    }

    /** A call that is refused, or comes to a FAULT: its answer, what fault() tells, and that all else is as it was. */
    void refused(String call, int want) {
        changesNothing(call, want, want <= NULL && want >= SIZE ? -10 - want : 0);
    }

    /** The same for a call that answers a long. */
    void lost(String call, int fault) {
        changesNothing(call, Long.MIN_VALUE, fault);
    }

    private void changesNothing(String call, long want, int fault) {
        Play with = twin();
        Play without = twin();
        check.due(call, with.answer(call), want);
        long before = without.answer("fault()");
        boolean names = NAME_FAULTS.contains(call.substring(0, call.indexOf('(')));
        check.due("fault() behind " + call, with.answer("fault()"), names ? fault : before);
        String now = with.allThatIsSeen();
        String then = without.allThatIsSeen();
        check.due("behind " + call + ":\n" + now + " for\n" + then, now.equals(then) ? 1 : 0, 1);
    }

    /** The same run on another object, behind which fault() is not 0, so that it is seen who changes it. */
    private Play twin() {
        Play twin = new Play(check);
        for (String call : played) {
            twin.answer(call);
        }
        twin.answer("put(0,60,0)");
        return twin;
    }

    /** Takes GIFTS and READINGS back to see each of them, so the object is of no more use behind it. */
    private String allThatIsSeen() {
        StringBuilder seen = new StringBuilder();
        for (int what = 0; what < 5; what++) {
            look(seen, "many(" + what + ")");
        }
        look(seen, "trace()");
        long houses = answer("many(0)");
        long persons = answer("many(1)");
        for (int h = 0; h < houses; h++) {
            look(seen, "ofHouse(" + h + ",0)");
            look(seen, "ofHouse(" + h + ",1)");
            for (int week = 0; week < 10; week++) {
                look(seen, "wood(" + h + "," + week + ",0)");
            }
        }
        for (int p = 0; p < persons; p++) {
            for (int what = 0; what < 7; what++) {
                look(seen, "ofPerson(" + p + "," + what + ")");
            }
        }
        lookAtSheets(seen);
        for (long k = answer("many(4)"); k > 0; k--) {
            look(seen, "seams()");
            look(seen, "gone()");
            look(seen, "back(1)");
        }
        for (long k = answer("many(3)"); k > 0; k--) {
            look(seen, "undo(1)");
            look(seen, "wood(0,0,0)");
            look(seen, "wood(0,9,0)");
        }
        return seen.toString();
    }

    private void lookAtSheets(StringBuilder seen) {
        for (int k = 0; k < 4; k++) {
            for (int lane = 0; lane < 3; lane++) {
                int cells = 0;
                while (cells <= 60 && look(seen, "cell(" + k + "," + cells + "," + lane + ")") != Long.MIN_VALUE) {
                    cells++;
                }
                check.due("cells of a row, 60 at most: " + cells, cells <= 60 ? 1 : 0, 1);
                look(seen, "fault()");
            }
        }
    }

    private long look(StringBuilder seen, String call) {
        long answer = answer(call);
        seen.append(call).append(' ').append(answer).append(' ');
        return answer;
    }

    /** What the object answers; the call is not one of those that are played again. */
    long answer(String call) {
        if (++calls > MOST_CALLS) {
            check.due(call + " is not one of the first 512", 0, 1);
        }
        int open = call.indexOf('(');
        Method method = FACE.get(call.substring(0, open));
        String inside = call.substring(open + 1, call.length() - 1);
        String[] told = inside.isEmpty() ? new String[0] : inside.split(",");
        Object[] args = new Object[told.length];
        for (int k = 0; k < args.length; k++) {
            args[k] = valueOf(told[k].trim());
        }
        try {
            return ((Number) method.invoke(x, args)).longValue();
        } catch (ReflectiveOperationException wrong) {
            throw new IllegalStateException(call, wrong);
        }
    }

    private static Object valueOf(String told) {
        switch (told) {
            case "true": return true;
            case "false": return false;
            case "MIN": return Integer.MIN_VALUE;
            case "MAX": return Integer.MAX_VALUE;
            default: return Integer.valueOf(told);
        }
    }

    private static Map<String, Method> face() {
        Map<String, Method> face = new TreeMap<>();
        for (Method method : TwoTowns.class.getDeclaredMethods()) {
            if (Modifier.isPublic(method.getModifiers())) {
                face.put(method.getName(), method);
            }
        }
        return face;
    }
}
