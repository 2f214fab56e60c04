/** Promises 1 to 8 and 39: the TEXT, what HOUSES and PERSONS are, SEAM, AWAY, GIFTS. */
public final class HousesTest {
    private static final Check CHECK = new Check();
    private static final String LONGEST =
        "u13;001;992;503;059,d0050,h1101,f0219,d1302,h0003,f1158";

    public static void main(String[] args) {
        newObject();
        textsTaken();
        firstFaults();
        textsOfLanesAndPlaces();
        textFaults();
        takenMakesAnew();
        ofHouseAndPerson();
        seam();
        away();
        gifts();
        many();
        CHECK.end();
    }

    private static void due(String call, long got, long want) {
        CHECK.due(call, got, want);
    }

    private static void newObject() {
        TwoTowns x = new TwoTowns();
        for (int what = 0; what < 5; what++) {
            due("new many " + what, x.many(what), 0);
        }
        for (int k = 0; k < 4; k++) {
            due("new lose " + k, x.lose(k), 0);
        }
        due("new fault", x.fault(), 0);
        due("new trace", x.trace(), 0);
        due("new ofHouse", x.ofHouse(0, 0), TwoTowns.UNKNOWN);
        due("new ofPerson", x.ofPerson(0, 0), TwoTowns.UNKNOWN);
    }

    private static void textsTaken() {
        due("shortest", CHECK.take(new TwoTowns(), "u01;001,d0000"), 1);
        due("longest", CHECK.take(new TwoTowns(), LONGEST), 4);
        for (int seam = 1; seam <= 13; seam++) {
            TwoTowns x = new TwoTowns();
            String text = "u" + seam / 10 + seam % 10 + ";991;119,f1159";
            due(text, CHECK.take(x, text), 2);
            due("seam of " + text, x.many(2), seam);
        }
    }

    /** The place of the first code with which no TEXT goes on, or how many there are. */
    private static void fault(String text, int place) {
        due("houses by " + text, CHECK.take(new TwoTowns(), text), -100 - place);
    }

    private static void firstFaults() {
        String whole = "u07;203;155,d0012";
        int[] tooSoon = {0, 1, 2, 3, 4, 5, 6, 7, 8, 9, 10, 11, 12, 13, 14, 15, 16};
        for (int n : tooSoon) {
            fault(whole.substring(0, n), n);
        }
        fault("U07;203,d0012", 0);
        fault(";", 0);
        fault("u27;203,d0012", 1);
        fault("ux", 1);
        fault("u00;203,d0012", 2);
        fault("u14;203,d0012", 2);
        fault("u19", 2);
        fault("u1a", 2);
        fault("u07,d0012", 3);
        fault("u07x", 3);
        fault("u07;x03,d0012", 4);
        fault("u07;2x3,d0012", 5);
        fault("u07;200,d0012", 6);
        fault("u07;20:,d0012", 6);
        fault("u07;203x", 7);
        fault("u07;203,u0012", 8);
        fault("u07;203,d2012", 9);
        fault("u07;203,d0112", 10);
        fault("u07;203;203,d0212", 14);
        fault("u07;203,d0062", 11);
        fault("u07;203,d001x", 12);
        fault("u07;203,d0012;203", 13);
        fault("u07;203,d0012x", 13);
        fault("u07;001;001;001;001;001,d0000", 19);
        fault("u07;001;001;001;001,d0400", 22);
        fault("u07;001,d0000,d0000,d0000,d0000,d0000,d0000,d0000", 43);
        fault("u07;001,d0000,", 14);
        fault(LONGEST + ",", 55);
    }

    private static void textsOfLanesAndPlaces() {
        TwoTowns x = new TwoTowns();
        due("of shorts", CHECK.take(x, "u07;203,d0012", 1, 1, 3), 1);
        due("of ints", CHECK.take(x, "u07;203;203,d0012", 3, 2, 5), 2);
        due("place from i on", CHECK.take(x, "u07;2x", 2, 2, 7), -105);
        x.put(3, 5, 'u' + 256);
        due("an int is no byte", x.houses(3, 2, 5, 17), -100);
        x.sheet(0, 0, 1);
        x.put(0, 0, 'u' + 256);
        due("a byte is cut", x.houses(0, 0, 0, 1), -101);
        x.sheet(0, 2, 2);
        x.put(0, 0, 'u');
        x.put(0, 1, Integer.MIN_VALUE);
        due("a far code", x.houses(0, 2, 0, 2), -101);
    }

    private static void textFaults() {
        TwoTowns x = new TwoTowns();
        due("houses of nothing", x.houses(0, 1, 0, -1), -11);
        due("fault NULL", x.fault(), 1);
        due("unknown sheet -1", x.houses(-1, 9, 0, 0), TwoTowns.UNKNOWN);
        due("refused: no fault", x.fault(), 0);
        due("unknown sheet 4", x.houses(4, 0, 0, 0), TwoTowns.UNKNOWN);
        due("lane -1", x.houses(0, -1, 0, 0), TwoTowns.OUTSIDE);
        due("lane 3", x.houses(0, 3, 0, 0), TwoTowns.OUTSIDE);
        x.sheet(0, 0, 5);
        due("houses CAST", x.houses(0, 1, 0, -1), -12);
        due("fault CAST", x.fault(), 2);
        due("houses SIZE", x.houses(0, 0, 9, -1), -14);
        due("fault SIZE", x.fault(), 4);
        due("houses INDEX beyond", x.houses(0, 0, 0, 6), -13);
        due("fault INDEX", x.fault(), 3);
        due("houses INDEX i below", x.houses(0, 0, -1, 1), -13);
        due("houses INDEX of none", x.houses(0, 0, 6, 0), -13);
        due("houses INDEX of none below", x.houses(0, 0, -1, 0), -13);
        due("houses INDEX far", x.houses(0, 0, Integer.MAX_VALUE, Integer.MAX_VALUE), -13);
        due("houses of none at the end", x.houses(0, 0, 5, 0), -100);
        due("a TEXT's fault is none", x.fault(), 0);
        due("still no houses", x.many(0), 0);
    }

    private static void takenMakesAnew() {
        TwoTowns x = CHECK.told("u07;203,d0012,f1011");
        x.away(0, true);
        x.gift(0, 0, 5);
        x.reading(0, 0, 0, 1);
        x.tell(0);
        due("wood ahead of it", x.wood(0, 0, 0), 25);
        due("refused TEXT", CHECK.take(x, "u07;203;20"), -110);
        due("keeps houses", x.many(0), 1);
        due("keeps persons", x.many(1), 2);
        due("keeps away", x.ofPerson(0, 6), 1);
        due("keeps gifts", x.many(3), 1);
        due("keeps readings", x.many(4), 1);
        due("keeps wood that comes", x.ofHouse(0, 0), 20);
        due("taken TEXT", CHECK.take(x, "u06;104;305,h1123"), 2);
        due("houses anew", x.many(0), 2);
        due("persons anew", x.many(1), 1);
        due("seam anew", x.many(2), 6);
        due("nobody away", x.ofPerson(0, 6), 0);
        due("no gifts", x.many(3), 0);
        due("no readings", x.many(4), 0);
        due("trace stays", x.trace(), 1);
        due("sheet stays", x.cell(0, 0, 0), 'u');
        due("wood anew", x.wood(0, 0, 0), 10);
    }

    private static void ofHouseAndPerson() {
        TwoTowns x = CHECK.told("u07;203;015,d0012,h1124,f0139");
        due("comes 0", x.ofHouse(0, 0), 20);
        due("bears 0", x.ofHouse(0, 1), 3);
        due("comes 1", x.ofHouse(1, 0), 1);
        due("bears 1", x.ofHouse(1, 1), 5);
        due("house -1", x.ofHouse(-1, 0), TwoTowns.UNKNOWN);
        due("house 2", x.ofHouse(2, 5), TwoTowns.UNKNOWN);
        due("house what -1", x.ofHouse(0, -1), TwoTowns.OUTSIDE);
        due("house what 2", x.ofHouse(0, 2), TwoTowns.OUTSIDE);
        int[][] due = {{0, 0, 0, 1, 2, 1, 0}, {1, 1, 1, 2, 4, 3, 0}, {2, 0, 1, 3, 9, 8, 0}};
        for (int p = 0; p < 3; p++) {
            for (int what = 0; what < 7; what++) {
                due("ofPerson " + p + " " + what, x.ofPerson(p, what), due[p][what]);
            }
        }
        due("person -1", x.ofPerson(-1, 0), TwoTowns.UNKNOWN);
        due("person 3", x.ofPerson(3, 9), TwoTowns.UNKNOWN);
        due("person what -1", x.ofPerson(0, -1), TwoTowns.OUTSIDE);
        due("person what 7", x.ofPerson(0, 7), TwoTowns.OUTSIDE);
    }

    private static void seam() {
        TwoTowns x = new TwoTowns();
        due("seam 0 ahead of STATE", x.seam(0), TwoTowns.OUTSIDE);
        due("seam 7 without houses", x.seam(7), TwoTowns.STATE);
        x = CHECK.told("u07;203,d0012");
        due("seam 14", x.seam(14), TwoTowns.OUTSIDE);
        due("seam -1", x.seam(-1), TwoTowns.OUTSIDE);
        due("seam kept", x.many(2), 7);
        due("seam 13", x.seam(13), 7);
        due("seam 1", x.seam(1), 13);
        due("seam now", x.many(2), 1);
        due("in at 0 alone", x.wear(0, 0, 13), 0);
    }

    private static void away() {
        TwoTowns x = new TwoTowns();
        due("away without persons", x.away(0, false), TwoTowns.UNKNOWN);
        x = CHECK.told("u07;203,d0012,d0011");
        due("away false", x.away(1, false), 0);
        due("away true", x.away(1, true), 1);
        due("away true again", x.away(1, true), 0);
        due("is away", x.ofPerson(1, 6), 1);
        due("the other is not", x.ofPerson(0, 6), 0);
        due("wood of one", x.wood(0, 0, 0), 19);
        due("away false now", x.away(1, false), 1);
        due("wood of two", x.wood(0, 0, 0), 18);
        due("away 2", x.away(2, true), TwoTowns.UNKNOWN);
        due("away -1", x.away(-1, true), TwoTowns.UNKNOWN);
        due("away far", x.away(32, true), TwoTowns.UNKNOWN);
    }

    private static void gifts() {
        TwoTowns x = new TwoTowns();
        due("gift without houses", x.gift(0, 0, 1), TwoTowns.UNKNOWN);
        due("undo 0 without houses", x.undo(0), 0);
        due("undo 1 without houses", x.undo(1), TwoTowns.OUTSIDE);
        x = CHECK.told("u07;009;009,d1012");
        due("gift house 2", x.gift(2, 10, 0), TwoTowns.UNKNOWN);
        due("gift house -1", x.gift(-1, 0, 1), TwoTowns.UNKNOWN);
        due("gift week -1", x.gift(0, -1, 1), TwoTowns.OUTSIDE);
        due("gift week 10", x.gift(0, 10, 1), TwoTowns.OUTSIDE);
        due("gift wood 0", x.gift(0, 0, 0), TwoTowns.OUTSIDE);
        due("gift wood 100", x.gift(0, 0, 100), TwoTowns.OUTSIDE);
        due("gift 0", x.gift(1, 0, 1), 0);
        due("gift 1", x.gift(1, 9, 99), 1);
        due("wood of gifts, week 0", x.wood(1, 0, 0), 1);
        due("wood of gifts, week 8", x.wood(1, 8, 13), 1);
        due("wood of gifts, week 9", x.wood(1, 9, 0), 99);
        due("wood of none", x.wood(0, 9, 0), 0);
        for (int k = 2; k < 6; k++) {
            due("gift " + k, x.gift(0, 0, k), k);
        }
        due("seventh", x.gift(0, 0, 1), TwoTowns.FULL);
        due("seventh, outside", x.gift(0, 0, 0), TwoTowns.OUTSIDE);
        due("wood of several", x.wood(0, 0, 0), 14);
        due("undo -1", x.undo(-1), TwoTowns.OUTSIDE);
        due("undo 7", x.undo(7), TwoTowns.OUTSIDE);
        due("undo 0", x.undo(0), 6);
        due("undo 2", x.undo(2), 4);
        due("wood of fewer", x.wood(0, 0, 0), 5);
        due("gift again", x.gift(0, 0, 9), 4);
        due("undo 5", x.undo(5), 0);
        due("wood of no gifts", x.wood(1, 9, 0), 0);
    }

    private static void many() {
        TwoTowns x = CHECK.told("u09;203;155;501,d0012,d0022");
        x.gift(0, 0, 1);
        x.reading(0, 0, 0, 0);
        x.reading(0, 0, 1, 0);
        int[] due = {3, 2, 9, 1, 2};
        for (int what = 0; what < 5; what++) {
            due("many " + what, x.many(what), due[what]);
        }
        due("many -1", x.many(-1), TwoTowns.OUTSIDE);
        due("many 5", x.many(5), TwoTowns.OUTSIDE);
    }
}
