/** Promises 9 to 14: wood, WEAR, who is COLD, CHILLS, ALL, BREAKS, half by half. */
public final class WeeksTest {
    private static final Check CHECK = new Check();

    public static void main(String[] args) {
        oneDwellerTillItBreaks();
        theColdMendNothing();
        towns();
        breaksWithinAHalf();
        byNumbers();
        housesApart();
        ninetyNineAtMost();
        wrongInputs();
        CHECK.end();
    }

    private static void due(String call, long got, long want) {
        CHECK.due(call, got, want);
    }

    private static void oneDwellerTillItBreaks() {
        TwoTowns x = CHECK.told("u02;051,d0010");
        for (int week = 0; week < 5; week++) {
            due("wood at 0 of " + week, x.wood(0, week, 0), 3 * week + 4);
            due("wood at 1 of " + week, x.wood(0, week, 1), 3 * week + 3);
            due("wood at 13 of " + week, x.wood(0, week, 13), 3 * week + 3);
            due("wear at 0 of " + week, x.wear(0, week, 0), 2 * week + 1);
            due("wear at 13 of " + week, x.wear(0, week, 13), 2 * week + 2);
            due("chills by " + week, x.chills(0, week), 0);
        }
        due("breaks", x.breaks(0), 57);
        for (int week = 5; week < 10; week++) {
            due("broken, wood of " + week, x.wood(0, week, 13), 15 + 5 * (week - 4));
            due("broken, wear of " + week, x.wear(0, week, 13), 10);
            due("broken, cold at 0", x.cold(week, 0), 1);
            due("broken, cold at 1", x.cold(week, 1), 1);
            due("not in, not cold", x.cold(week, 2), 0);
            due("broken, chills by " + week, x.chills(0, week), 2 * (week - 4));
        }
        due("all", x.all(), 10);
        x.away(0, true);
        due("away, all", x.all(), 0);
        due("away, breaks", x.breaks(0), TwoTowns.NONE);
        due("away, wood", x.wood(0, 9, 13), 50);
    }

    private static void theColdMendNothing() {
        TwoTowns x = CHECK.told("u02;091,f0023");
        due("takes 6", x.wood(0, 0, 0), 3);
        due("wear 1", x.wear(0, 0, 0), 1);
        due("too little", x.cold(0, 1), 1);
        due("takes none", x.wood(0, 0, 1), 3);
        due("cold wears, mends nothing", x.wear(0, 0, 1), 2);
        due("then warm", x.cold(1, 1), 0);
        due("just enough", x.wood(0, 1, 1), 0);
        due("warm mends", x.wear(0, 1, 1), 1);
        x = CHECK.told("u01;991,d0009");
        due("0 at least", x.wear(0, 0, 0), 0);
        x.away(0, true);
        due("away: nothing", x.wear(0, 9, 13), 0);
    }

    private static void towns() {
        TwoTowns x = CHECK.told("u07;999,d0003,d1002");
        due("ahead of mending", x.wear(0, 0, 5), 6);
        due("town 0 mends at 6", x.wear(0, 0, 6), 4);
        due("town 1 from 7 on", x.wear(0, 0, 7), 5);
        due("ahead of 13", x.wear(0, 0, 12), 10);
        due("town 1 mends at 13", x.wear(0, 0, 13), 9);
        due("week 1", x.wear(0, 1, 6), 13);
        x.away(1, true);
        due("nobody behind the seam", x.wear(0, 0, 13), 4);
        x.seam(13);
        due("seam 13", x.wear(0, 0, 12), 10);
        x.away(0, true);
        x.away(1, false);
        due("one half for town 1", x.wear(0, 0, 12), 0);
        due("it mends in it", x.wear(0, 0, 13), 0);
    }

    private static void breaksWithinAHalf() {
        TwoTowns x = CHECK.told("u13;991,d0000,d0000,d0009");
        due("nine", x.wear(0, 0, 2), 9);
        due("the first breaks it", x.cold(0, 3), 6);
        due("ten", x.wear(0, 0, 3), 10);
        due("breaks at 3", x.breaks(0), 3);
        due("all cold then", x.cold(0, 4), 7);
        due("never mended", x.wear(0, 0, 12), 10);
        due("chills of the first", x.chills(0, 0), 9);
        due("chills of the second", x.chills(1, 0), 10);
        due("chills by 9", x.chills(0, 9), 9 + 9 * 13);
        due("all", x.all(), 9 + 10 + 10 + 27 * 13);
        x = CHECK.told("u05;991,d0009,d0009");
        due("warm, but broken: not mended", x.wear(0, 0, 4), 10);
        due("both were warm", x.cold(0, 4), 0);
        due("breaks at 4", x.breaks(0), 4);
        x = CHECK.told("u05;992,d0009,d0009");
        due("not broken: mended", x.wear(0, 0, 4), 0);
        due("never breaks", x.breaks(0), TwoTowns.NONE);
    }

    private static void byNumbers() {
        TwoTowns x = CHECK.told("u01;022,d0020,d0010,d0000");
        due("the first takes all", x.cold(0, 0), 2);
        due("none left", x.wood(0, 0, 0), 0);
        due("all wear", x.wear(0, 0, 0), 3);
        x = CHECK.told("u01;022,d0010,d0020,d0010");
        due("a later one may be warm", x.cold(0, 0), 2);
    }

    private static void housesApart() {
        TwoTowns x = CHECK.told("u01;102;302,d0010,h0121");
        due("wood 0", x.wood(0, 0, 0), 9);
        due("wood 1", x.wood(1, 0, 0), 27);
        due("wear 0", x.wear(0, 0, 0), 1);
        due("wear 1", x.wear(1, 0, 0), 0);
        due("breaks 0", x.breaks(0), TwoTowns.NONE);
    }

    private static void ninetyNineAtMost() {
        TwoTowns x = CHECK.told("u01;602,d0010");
        due("60 less 1", x.wood(0, 0, 13), 59);
        due("99 less 1", x.wood(0, 1, 0), 98);
        x.gift(0, 0, 40);
        due("with a gift", x.wood(0, 0, 0), 98);
        x.gift(0, 2, 99);
        due("with a large gift", x.wood(0, 2, 0), 98);
    }

    private static void wrongInputs() {
        TwoTowns x = new TwoTowns();
        due("cold, week ahead of STATE", x.cold(10, 0), TwoTowns.OUTSIDE);
        due("cold, STATE", x.cold(9, 13), TwoTowns.STATE);
        due("all, STATE", x.all(), TwoTowns.STATE);
        due("breaks, no house", x.breaks(0), TwoTowns.UNKNOWN);
        due("chills, no person", x.chills(0, 10), TwoTowns.UNKNOWN);
        due("wood, no house", x.wood(0, 10, 0), TwoTowns.UNKNOWN);
        due("wear, no house", x.wear(0, 10, 0), TwoTowns.UNKNOWN);
        x = CHECK.told("u01;602,d0010");
        int[][] times = {{-1, 0}, {10, 0}, {0, -1}, {0, 14}, {Integer.MAX_VALUE, Integer.MIN_VALUE}};
        for (int[] t : times) {
            due("wood outside", x.wood(0, t[0], t[1]), TwoTowns.OUTSIDE);
            due("wear outside", x.wear(0, t[0], t[1]), TwoTowns.OUTSIDE);
            due("cold outside", x.cold(t[0], t[1]), TwoTowns.OUTSIDE);
        }
        int[] none = {-1, 1, Integer.MAX_VALUE, Integer.MIN_VALUE};
        for (int h : none) {
            due("wood unknown", x.wood(h, 0, 0), TwoTowns.UNKNOWN);
            due("wear unknown", x.wear(h, 0, 0), TwoTowns.UNKNOWN);
            due("breaks unknown", x.breaks(h), TwoTowns.UNKNOWN);
            due("chills unknown", x.chills(h, 0), TwoTowns.UNKNOWN);
        }
        due("chills week -1", x.chills(0, -1), TwoTowns.OUTSIDE);
        due("chills week 10", x.chills(0, 10), TwoTowns.OUTSIDE);
    }
}
