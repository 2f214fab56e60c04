/** Counts and prints answers that are not as due, and hands a TEXT to an object. */
final class Check {
    private int asked = 0;
    private int wrong = 0;
    private String about = "";

    /** What the answers from now on are about: told with each that is not as due. */
    void about(String what) {
        about = what + ": ";
    }

    void due(String call, long got, long want) {
        asked++;
        if (got != want) {
            wrong++;
            System.out.println(about + call + " answered " + got + ", due is " + want);
        }
    }

    /** Puts a TEXT on sheet 0 as bytes and takes it; what houses answered. */
    int take(TwoTowns x, String text) {
        return take(x, text, 0, 0, 0);
    }

    int take(TwoTowns x, String text, int sheet, int lane, int from) {
        due("sheet for " + text, x.sheet(sheet, lane, from + text.length()), 1);
        for (int k = 0; k < text.length(); k++) {
            due("put for " + text, x.put(sheet, from + k, text.charAt(k)), 1);
        }
        return x.houses(sheet, lane, from, text.length());
    }

    /** A new object with this TEXT taken. */
    TwoTowns told(String text) {
        TwoTowns x = new TwoTowns();
        if (take(x, text) < 1) {
            due(text + " is taken", 0, 1);
        }
        return x;
    }

    void end() {
        System.out.println(asked + " answers, " + wrong + " not as due");
        if (wrong != 0) {
            System.exit(1);
        }
    }
}
