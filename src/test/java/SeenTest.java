/** Promises 20 to 28: TOGETHER, THIRD, rows, READINGS, GONE, SEAMS, KINDS, ODDS. */
public final class SeenTest {
    private static final Check CHECK = new Check();

    public static void main(String[] args) {
        together();
        third();
        row();
        rowRefusals();
        readings();
        gone();
        seams();
        kinds();
        odds();
        CHECK.end();
    }

    private static void due(String call, long got, long want) {
        CHECK.due(call, got, want);
    }

    private static void together() {
        TwoTowns x = CHECK.told("u05;999;999,d0010,d1010,d0010,d1110");
        int[] firstStays = {0, 1, 2, 3, 4, 5, 6, 7, 8, 9, 9, 9, 9, 9};
        int[] secondStays = {0, 1, 2, 3, 4, 5, 5, 5, 5, 5, 5, 5, 5, 5};
        for (int stays = 0; stays < 14; stays++) {
            due("town 0 stays " + stays, x.together(0, 1, stays), firstStays[stays]);
            due("town 1 stays " + stays, x.together(1, 0, stays), secondStays[stays]);
            due("one town " + stays, x.together(0, 2, stays), 5);
            due("unlike houses " + stays, x.together(0, 3, stays), 0);
            due("one town, unlike houses " + stays, x.together(1, 3, stays), 0);
        }
        x.away(1, true);
        due("away does not matter", x.together(0, 1, 3), 3);
        x.seam(12);
        due("by the seam", x.together(0, 1, 3), 2);
        due("itself", x.together(1, 1, 0), TwoTowns.UNKNOWN);
        due("itself, outside", x.together(1, 1, 14), TwoTowns.UNKNOWN);
        due("first unknown", x.together(4, 0, 14), TwoTowns.UNKNOWN);
        due("second unknown", x.together(0, -1, 14), TwoTowns.UNKNOWN);
        due("stays -1", x.together(0, 1, -1), TwoTowns.OUTSIDE);
        due("stays 14", x.together(0, 1, 14), TwoTowns.OUTSIDE);
        due("nobody", new TwoTowns().together(0, 1, 0), TwoTowns.UNKNOWN);
    }

    private static void third() {
        due("no house", new TwoTowns().third(0), TwoTowns.UNKNOWN);
        TwoTowns x = CHECK.told("u05;999;999;999,d0010,d1010,d1110");
        due("always somebody", x.third(0), 0);
        due("town 1 alone", x.third(1), 31);
        due("never anybody", x.third(2), 16383);
        x.away(1, true);
        due("town 0 alone", x.third(0), 16383 - 31);
        x.away(0, true);
        due("all away", x.third(0), 16383);
        x.seam(13);
        due("by the seam", x.third(1), 8191);
        due("third 3", x.third(3), TwoTowns.UNKNOWN);
        due("third -1", x.third(-1), TwoTowns.UNKNOWN);
    }

    private static void fill(TwoTowns x, int sheet, int lane, int... cells) {
        due("sheet", x.sheet(sheet, lane, cells.length), 1);
        for (int k = 0; k < cells.length; k++) {
            due("put", x.put(sheet, k, cells[k]), 1);
        }
    }

    private static void row() {
        TwoTowns x = CHECK.told("u02;999,d0010,d1010");
        fill(x, 1, 2, 0, 0, 1, 1, 0, 1);
        due("till one is not", x.row(1, 2, 0, 6), 4);
        due("all are", x.row(1, 2, 0, 4), 4);
        due("of none", x.row(1, 2, 6, 0), 0);
        due("halves from 0 on", x.row(1, 2, 1, 3), 1);
        due("the first is not", x.row(1, 2, 2, 1), 0);
        fill(x, 2, 1, 0, 0, 1, 1, 1, 1, 1, 1, 1, 1, 1, 1, 1, 1, 0);
        due("fourteen", x.row(2, 1, 0, 14), 14);
        due("fifteen", x.row(2, 1, 0, 15), TwoTowns.OUTSIDE);
        due("refused: no fault", x.fault(), 0);
        x.away(1, true);
        due("who is away is not in", x.row(2, 1, 0, 14), 2);
        fill(x, 1, 0, 0, 2);
        due("no such person", x.row(1, 0, 0, 2), TwoTowns.UNKNOWN);
        fill(x, 1, 0, 1, -1);
        due("no such person behind", x.row(1, 0, 0, 2), TwoTowns.UNKNOWN);
        due("not asked for", x.row(1, 0, 0, 1), 0);
        fill(x, 1, 2, 256);
        due("an int is no byte", x.row(1, 2, 0, 1), TwoTowns.UNKNOWN);
    }

    private static void rowRefusals() {
        TwoTowns x = new TwoTowns();
        due("sheet 4", x.row(4, 7, 0, 0), TwoTowns.UNKNOWN);
        due("sheet -1", x.row(-1, 0, 0, 0), TwoTowns.UNKNOWN);
        due("lane 3", x.row(0, 3, 0, 0), TwoTowns.OUTSIDE);
        due("nothing", x.row(0, 1, -1, -1), -11);
        due("NULL", x.fault(), 1);
        x.sheet(0, 0, 20);
        due("lane 1", x.row(0, 1, -1, -1), -12);
        due("CAST", x.fault(), 2);
        due("n -1", x.row(0, 0, -1, -1), -14);
        due("SIZE", x.fault(), 4);
        due("beyond", x.row(0, 0, 20, 1), -13);
        due("INDEX", x.fault(), 3);
        due("none beyond", x.row(0, 0, 21, 0), -13);
        due("no houses, of 15", x.row(0, 0, 0, 15), TwoTowns.STATE);
        due("refused", x.fault(), 0);
        CHECK.take(x, "u02;999,d0010", 1, 0, 0);
        x.put(0, 0, 9);
        due("of 15, unknown", x.row(0, 0, 0, 15), TwoTowns.OUTSIDE);
        due("unknown", x.row(0, 0, 0, 14), TwoTowns.UNKNOWN);
    }

    private static void readings() {
        TwoTowns x = new TwoTowns();
        due("no house", x.reading(0, 0, 0, 0), TwoTowns.UNKNOWN);
        due("back 0", x.back(0), 0);
        due("back 1", x.back(1), TwoTowns.OUTSIDE);
        x = CHECK.told("u03;999,d0001,d0000");
        due("house 1", x.reading(1, 10, 14, 100), TwoTowns.UNKNOWN);
        due("week -1", x.reading(0, -1, 0, 0), TwoTowns.OUTSIDE);
        due("week 10", x.reading(0, 10, 0, 0), TwoTowns.OUTSIDE);
        due("half -1", x.reading(0, 0, -1, 0), TwoTowns.OUTSIDE);
        due("half 14", x.reading(0, 0, 14, 0), TwoTowns.OUTSIDE);
        due("v -1", x.reading(0, 0, 0, -1), TwoTowns.OUTSIDE);
        due("v 100", x.reading(0, 0, 0, 100), TwoTowns.OUTSIDE);
        for (int k = 0; k < 8; k++) {
            due("reading " + k, x.reading(0, 9, 13, 99), k);
        }
        due("ninth", x.reading(0, 0, 0, 0), TwoTowns.FULL);
        due("ninth, outside", x.reading(0, 0, 0, 100), TwoTowns.OUTSIDE);
        due("back -1", x.back(-1), TwoTowns.OUTSIDE);
        due("back 9", x.back(9), TwoTowns.OUTSIDE);
        due("back 0", x.back(0), 8);
        due("back 3", x.back(3), 5);
        due("sixth again", x.reading(0, 0, 0, 0), 5);
        due("back 6", x.back(6), 0);
    }

    private static void gone() {
        due("gone STATE", new TwoTowns().gone(), TwoTowns.STATE);
        TwoTowns x = CHECK.told("u03;999,d0001,d0000");
        due("no readings", x.gone(), 3);
        x.reading(0, 0, 2, 3);
        due("the first", x.gone(), 1);
        x.back(1);
        x.reading(0, 0, 2, 2);
        due("the second", x.gone(), 2);
        x.reading(0, 1, 13, 4);
        due("the second by two readings", x.gone(), 2);
        x.reading(0, 1, 13, 5);
        due("nobody by three", x.gone(), 0);
        x.back(3);
        x.reading(0, 0, 2, 5);
        due("both were there", x.gone(), 0);
        x = CHECK.told("u03;999,d0001,d0000,d0009");
        x.away(2, true);
        x.reading(0, 0, 2, 5);
        due("who is away already", x.gone(), 4);
        due("nobody else becomes away", x.ofPerson(0, 6), 0);
    }

    private static void seams() {
        due("seams STATE", new TwoTowns().seams(), TwoTowns.STATE);
        TwoTowns x = CHECK.told("u03;999,d0001,d0000");
        due("no readings", x.seams(), 16382);
        x.reading(0, 0, 0, 2);
        due("all but 1", x.seams(), 16380);
        x.reading(0, 0, 13, 11);
        due("6 alone", x.seams(), 1 << 6);
        x.reading(0, 1, 0, 12);
        due("none", x.seams(), 0);
        due("the seam is kept", x.many(2), 3);
    }

    private static void kinds() {
        due("kinds of nobody", new TwoTowns().kinds(0), TwoTowns.UNKNOWN);
        TwoTowns x = CHECK.told("u02;049,d0021");
        due("no readings", x.kinds(0), 7);
        due("kinds -1", x.kinds(-1), TwoTowns.UNKNOWN);
        due("kinds 1", x.kinds(1), TwoTowns.UNKNOWN);
        x.reading(0, 0, 1, 2);
        due("two kinds", x.kinds(0), 6);
        x.reading(0, 2, 1, 5);
        due("a HEARTY", x.kinds(0), 2);
        x.back(2);
        x.reading(0, 0, 1, 1);
        due("a DWELLER", x.kinds(0), 1);
        x.back(1);
        x.reading(0, 2, 1, 6);
        due("a FROWARD one", x.kinds(0), 4);
        due("the kind is kept", x.ofPerson(0, 0), 0);
        x.away(0, true);
        due("away", x.kinds(0), 0);
    }

    private static void dueOdds(TwoTowns x, int week, long upper, long lower) {
        due("odds upper " + week, x.odds(week, 0), upper);
        due("odds lower " + week, x.odds(week, 1), lower);
    }

    private static void odds() {
        due("odds STATE", new TwoTowns().odds(0, 0), TwoTowns.LOST);
        TwoTowns x = CHECK.told("u01;019,d0010,d0010");
        dueOdds(x, 0, 3, 4);
        dueOdds(x, 9, 3, 4);
        x.away(0, true);
        dueOdds(x, 0, 3, 4);
        due("week -1", x.odds(-1, 0), TwoTowns.LOST);
        due("week 10", x.odds(10, 0), TwoTowns.LOST);
        due("which -1", x.odds(0, -1), TwoTowns.LOST);
        due("which 2", x.odds(0, 2), TwoTowns.LOST);
        dueOdds(CHECK.told("u01;009,d0010"), 0, 1, 2);
        dueOdds(CHECK.told("u01;999,d0010"), 9, 1, 1);
        dueOdds(CHECK.told("u01;019,d0010,d0010,d0010"), 5, 1, 2);
        dueOdds(CHECK.told("u01;009,d0010,d0010,d0010,d0010,d0010,d0010"), 0, 1, 64);
        x = CHECK.told("u05;992,d0000");
        dueOdds(x, 3, 1, 1);
        dueOdds(x, 4, 1, 2);
    }
}
