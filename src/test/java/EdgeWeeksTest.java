/** Promises 9 to 14: the boundaries that the document names for wood, WEAR, who is COLD, CHILLS, ALL, BREAKS. */
public final class EdgeWeeksTest {
    private static final Check CHECK = new Check();
    private static final String[] NO_WEEKS = {"-1", "10", "MIN", "MAX"};
    private static final String[] NO_HALVES = {"-1", "14", "MIN", "MAX"};

    public static void main(String[] args) throws Exception {
        new Edges(CHECK, args).run(EdgeWeeksTest.class);
    }

    private static Play play(String text) {
        return new Play(CHECK, text);
    }

    private static Play withoutHouses() {
        return new Play(CHECK);
    }

    @Says(promise = {9, 10, 11}, text = "WEEKS 0 .. 9 have HALVES 0 .. 13.")
    private static void theFirstAndTheLastHalf() {
        Play x = play("u07;109,d0000,d1000");
        int wear = 0;
        for (int week = 0; week < 10; week++) {
            for (int half = 0; half < 14; half++) {
                wear = Math.min(90, wear + 1);
                x.due("wear(0," + week + "," + half + ")", wear);
                x.due("wood(0," + week + "," + half + ")", Math.min(99, 10 * week + 10));
            }
        }
        x.due("cold(0,0)", 0);
        x.due("cold(9,0)", 1);
        x.due("cold(9,13)", 2);
    }

    @Says(promise = {10, 11}, text = "TOWN 0 is in from HALF 0 to the one ahead of the SEAM, TOWN 1 from the SEAM on.")
    private static void whoIsInByEachSeam() {
        Play x = play("u01;009;009,d0000,d1100");
        for (int seam = 1; seam <= 13; seam++) {
            x.answer("seam(" + seam + ")");
            for (int half = 0; half < 14; half++) {
                x.due("wear(0,0," + half + ")", Math.min(half + 1, seam));
                x.due("wear(1,0," + half + ")", Math.max(0, half + 1 - seam));
            }
        }
        Play cold = play("u06;009,d0010,d1010");
        for (int half = 0; half < 14; half++) {
            cold.due("cold(0," + half + ")", half < 6 ? 1 : 2);
            cold.due("cold(9," + half + ")", half < 6 ? 1 : 2);
        }
    }

    @Says(promise = {9, 10}, text = "At first HOUSES have no wood, WEAR 0.")
    private static void nothingAtFirst() {
        Play x = play("u01;001;009;001;009,d1010");
        for (int h = 0; h < 4; h++) {
            x.due("wood(" + h + ",0,0)", 0);
            x.due("wear(" + h + ",0,0)", 0);
        }
        play("u01;009,d0010").due("cold(0,0)", 1);
    }

    @Says(promise = 9, text = "As a WEEK begins, the WOOD that COMES is put to what a HOUSE has, and GIFTS of that WEEK")
    private static void woodComesAsAWeekBegins() {
        Play x = play("u07;039,d0000");
        x.due("gift(0,0,1)", 0);
        x.due("gift(0,3,5)", 1);
        x.due("gift(0,3,6)", 2);
        x.due("gift(0,9,7)", 3);
        int[] due = {4, 7, 10, 24, 27, 30, 33, 36, 39, 49};
        for (int week = 0; week < 10; week++) {
            x.due("wood(0," + week + ",0)", due[week]);
            x.due("wood(0," + week + ",1)", due[week]);
            x.due("wood(0," + week + ",13)", due[week]);
        }
    }

    @Says(promise = 9, text = "(99 in all at most)")
    private static void ninetyNineInAll() {
        Play x = play("u01;499;999,d0000");
        int[] due = {49, 98, 99, 99};
        for (int week = 0; week < 4; week++) {
            x.due("wood(0," + week + ",0)", due[week]);
            x.due("wood(1," + week + ",0)", 99);
        }
        x.due("gift(0,0,50)", 0);
        x.due("wood(0,0,0)", 99);
        x.due("undo(1)", 0);
        x.due("gift(0,0,51)", 0);
        x.due("wood(0,0,0)", 99);
        x.due("gift(0,0,99)", 1);
        x.due("wood(0,0,0)", 99);
        x.due("wood(0,1,0)", 99);
        Play burnt = play("u01;509,d0010");
        burnt.due("wood(0,1,0)", 98);
        burnt.due("gift(0,0,49)", 0);
        burnt.due("wood(0,0,0)", 98);
        burnt.due("gift(0,0,99)", 1);
        burnt.due("wood(0,0,0)", 98);
        burnt.due("wood(0,0,13)", 98);
        burnt.due("wood(0,1,0)", 98);
    }

    @Says(promise = {9, 10, 11}, text = "In each HALF the PERSONS of the TOWN that is in, by numbers, but those who are AWAY")
    private static void byNumbersButThoseWhoAreAway() {
        Play x = play("u01;059,d0010,d0010,d0010,d0010,d0010,d0010");
        x.due("cold(0,0)", 32);
        x.due("wood(0,0,0)", 0);
        x.due("wear(0,0,0)", 6);
        x.due("away(0,true)", 1);
        x.due("cold(0,0)", 0);
        x.due("wood(0,0,0)", 0);
        x.due("wear(0,0,0)", 5);
        x.due("away(5,true)", 1);
        x.due("wood(0,0,0)", 1);
        x.due("wear(0,0,0)", 4);
        for (int p = 1; p < 5; p++) {
            x.due("away(" + p + ",true)", 1);
        }
        x.due("cold(0,0)", 0);
        x.due("wood(0,0,0)", 5);
        x.due("wear(0,0,0)", 0);
        Play first = play("u01;029,d0020,d0010");
        first.due("cold(0,0)", 2);
        Play second = play("u01;029,d0010,d0020");
        second.due("cold(0,0)", 2);
        second.due("wood(0,0,0)", 1);
    }

    @Says(promise = {9, 10, 11, 14}, text = "if the HOUSE is BROKEN (WEAR is 10 times what it BEARS, or more), one is COLD.")
    private static void brokenByTenTimesWhatItBears() {
        for (int bears = 1; bears <= 9; bears++) {
            Play x = play("u13;99" + bears + ",d0000,d1000");
            x.due("away(1,true)", 1);
            int last = 10 * bears - 1;
            String then = last / 13 + "," + last % 13;
            String next = (last + 1) / 13 + "," + (last + 1) % 13;
            x.due("wear(0," + then + ")", 10 * bears);
            x.due("cold(" + then + ")", 0);
            x.due("breaks(0)", 14 * (last / 13) + last % 13);
            x.due("wear(0," + next + ")", 10 * bears);
            x.due("cold(" + next + ")", 1);
            x.due("wear(0,9,13)", 10 * bears);
        }
        Play taken = play("u13;991,d0010");
        taken.due("wood(0,0,9)", 89);
        taken.due("wood(0,0,10)", 89);
        taken.due("wood(0,0,12)", 89);
    }

    @Says(promise = {9, 11}, text = "if it has no less than one WANTS, one takes that, else one is COLD and takes none")
    private static void justEnoughWood() {
        String[] wants5 = {"d0050", "h0040"};
        for (String person : wants5) {
            Play enough = play("u01;059," + person);
            enough.due("cold(0,0)", 0);
            enough.due("wood(0,0,0)", 0);
            Play less = play("u01;049," + person);
            less.due("cold(0,0)", 1);
            less.due("wood(0,0,0)", 4);
            Play more = play("u01;069," + person);
            more.due("cold(0,0)", 0);
            more.due("wood(0,0,0)", 1);
        }
        Play froward = play("u01;129;119,f0050,f0150");
        froward.due("cold(0,0)", 2);
        froward.due("wood(0,0,0)", 0);
        froward.due("wood(1,0,0)", 11);
        Play nothing = play("u01;009,d0000,h0000,f0000");
        nothing.due("cold(0,0)", 6);
        nothing.due("wood(0,0,0)", 0);
    }

    @Says(promise = 10, text = "else one is COLD and takes none; WEAR is 1 more.")
    private static void alsoTheColdWearAHouse() {
        Play x = play("u02;009,d0010,d0000,d1010");
        x.due("wear(0,0,0)", 2);
        x.due("wear(0,0,1)", 4);
        x.due("wear(0,0,2)", 5);
        x.due("wear(0,0,13)", 16);
    }

    @Says(promise = 10, text = "Then, in the last HALF of each TOWN's time, its PERSONS by numbers")
    private static void bothTownsMendInTheirLastHalf() {
        Play x = play("u01;009;009,d0001,d1101");
        for (int seam = 1; seam <= 13; seam++) {
            x.answer("seam(" + seam + ")");
            if (seam > 1) {
                x.due("wear(0,0," + (seam - 2) + ")", seam - 1);
            }
            x.due("wear(0,0," + (seam - 1) + ")", seam - 1);
            x.due("wear(0,0,13)", seam - 1);
            x.due("wear(1,0,12)", 13 - seam);
            x.due("wear(1,0,13)", 13 - seam);
        }
        Play one = play("u04;009,d0003,d1002");
        int[] due = {1, 2, 3, 1, 2, 3, 4, 5, 6, 7, 8, 9, 10, 9};
        for (int half = 0; half < 14; half++) {
            one.due("wear(0,0," + half + ")", due[half]);
        }
    }

    @Says(promise = 10, text = "but those who are AWAY, or were COLD in it: WEAR is less by what one MENDS")
    private static void theAwayAndTheColdMendNothing() {
        Play away = play("u02;009,d0000,d0003");
        away.due("wear(0,0,1)", 1);
        away.due("away(1,true)", 1);
        away.due("wear(0,0,1)", 2);
        Play cold = play("u02;019,d0011");
        cold.due("wear(0,0,0)", 1);
        cold.due("wear(0,0,1)", 2);
        cold.due("gift(0,0,1)", 0);
        cold.due("wear(0,0,1)", 1);
        Play later = play("u02;009,d0012");
        later.due("gift(0,1,2)", 0);
        later.due("cold(0,1)", 1);
        later.due("wear(0,0,1)", 2);
        later.due("cold(1,1)", 0);
        later.due("wear(0,1,1)", 2);
        Play another = play("u02;009,d0010,d0001");
        another.due("cold(0,1)", 1);
        another.due("wear(0,0,1)", 3);
    }

    @Says(promise = 10, text = "WEAR is less by what one MENDS (0 at least)")
    private static void mendedTo0AtLeast() {
        int[] due = {3, 2, 1, 0, 0, 0, 0, 0, 0, 0};
        for (int mends = 0; mends <= 9; mends++) {
            Play x = play("u03;009,d000" + mends);
            x.due("wear(0,0,2)", due[mends]);
            x.due("wear(0,0,13)", due[mends]);
        }
        Play several = play("u03;009,d0004,d0009,d0009");
        several.due("wear(0,0,1)", 6);
        several.due("wear(0,0,2)", 0);
        several.due("wear(0,1,0)", 3);
    }

    @Says(promise = {10, 14}, text = "(0 at least), if the HOUSE is not BROKEN.")
    private static void aBrokenHouseIsNotMended() {
        Play whole = play("u09;001,d0009");
        whole.due("wear(0,0,8)", 0);
        whole.due("breaks(0)", Play.NONE);
        Play broken = play("u10;001,d0009");
        broken.due("wear(0,0,9)", 10);
        broken.due("cold(0,9)", 0);
        broken.due("breaks(0)", 9);
        broken.due("wear(0,9,13)", 10);
        Play among = play("u05;001,d0009,d0009");
        among.due("cold(0,4)", 0);
        among.due("wear(0,0,4)", 10);
    }

    private static void refusedTimes(String call) {
        Play x = play("u07;009;009,d0010");
        String[] unknown = {"-1", "2", "4", "MIN", "MAX"};
        for (String h : unknown) {
            x.refused(call + "(" + h + ",0,0)", Play.UNKNOWN);
            x.refused(call + "(" + h + ",10,14)", Play.UNKNOWN);
        }
        for (String week : NO_WEEKS) {
            x.refused(call + "(1," + week + ",0)", Play.OUTSIDE);
            x.refused(call + "(1," + week + ",14)", Play.OUTSIDE);
        }
        for (String half : NO_HALVES) {
            x.refused(call + "(1,0," + half + ")", Play.OUTSIDE);
            x.refused(call + "(1,9," + half + ")", Play.OUTSIDE);
        }
        x.due(call + "(1,9,13)", 0);
        withoutHouses().refused(call + "(0,0,0)", Play.UNKNOWN);
        withoutHouses().refused(call + "(0,10,14)", Play.UNKNOWN);
    }

    @Says(promise = 9, text = "What wood a HOUSE has as a HALF ends. UNKNOWN; OUTSIDE: week, half.")
    private static void refusalsOfWood() {
        refusedTimes("wood");
    }

    @Says(promise = 10, text = "WEAR of a HOUSE as a HALF ends. UNKNOWN; OUTSIDE: week, half.")
    private static void refusalsOfWear() {
        refusedTimes("wear");
    }

    @Says(promise = 11, text = "Who is COLD in a HALF, as a set.")
    private static void nobodyAndAllAreCold() {
        Play x = play("u13;999,d0010,d0010,d0010,d0010,d0010,d0010");
        x.due("cold(0,0)", 0);
        x.due("cold(0,13)", 0);
        Play all = play("u13;009,d0010,d0010,d0010,d0010,d0010,d0010");
        all.due("cold(0,0)", 63);
        all.due("cold(9,12)", 63);
        all.due("cold(9,13)", 0);
        play("u13;009,d0000,d0000,d0000,d0000,d0000,d0010").due("cold(0,0)", 32);
        play("u13;009,d0010,d0000,d0000,d0000,d0000,d0000").due("cold(0,0)", 1);
    }

    @Says(promise = 11, text = "OUTSIDE: week, half; STATE: there are no HOUSES.")
    private static void refusalsOfCold() {
        Play x = play("u07;009;009,d0010");
        for (String week : NO_WEEKS) {
            x.refused("cold(" + week + ",0)", Play.OUTSIDE);
            withoutHouses().refused("cold(" + week + ",0)", Play.OUTSIDE);
        }
        for (String half : NO_HALVES) {
            x.refused("cold(0," + half + ")", Play.OUTSIDE);
            x.refused("cold(9," + half + ")", Play.OUTSIDE);
            withoutHouses().refused("cold(0," + half + ")", Play.OUTSIDE);
        }
        withoutHouses().refused("cold(0,0)", Play.STATE);
        withoutHouses().refused("cold(9,13)", Play.STATE);
    }

    @Says(promise = 12, text = "CHILLS of a PERSON by a WEEK: in how many HALVES of WEEKS 0 to that one it was COLD.")
    private static void chillsByEachWeek() {
        Play x = play("u13;009,d0010,d1010,d0000");
        for (int week = 0; week < 10; week++) {
            x.due("chills(0," + week + ")", 13 * week + 13);
            x.due("chills(1," + week + ")", week + 1);
        }
        x.due("away(0,true)", 1);
        x.due("chills(0,9)", 0);
        Play late = play("u01;009,d0000,d0010");
        late.due("gift(0,0,8)", 0);
        late.due("chills(1,7)", 0);
        late.due("chills(1,8)", 1);
        late.due("chills(1,9)", 2);
        late.due("chills(0,9)", 0);
    }

    @Says(promise = 12, text = "CHILLS of a PERSON by a WEEK. UNKNOWN; OUTSIDE.")
    private static void refusalsOfChills() {
        Play x = play("u07;009,d0010,d0010");
        String[] unknown = {"-1", "2", "6", "MIN", "MAX"};
        for (String p : unknown) {
            x.refused("chills(" + p + ",0)", Play.UNKNOWN);
            x.refused("chills(" + p + ",10)", Play.UNKNOWN);
        }
        for (String week : NO_WEEKS) {
            x.refused("chills(1," + week + ")", Play.OUTSIDE);
        }
        withoutHouses().refused("chills(0,0)", Play.UNKNOWN);
        withoutHouses().refused("chills(0,10)", Play.UNKNOWN);
    }

    @Says(promise = 13, text = "ALL: those of all together by WEEK 9.")
    private static void allTogether() {
        play("u07;009,d0010,d0010,d0010,d1010,d1010,d1010").due("all()", 420);
        play("u13;009,d0010,d0010,d0010,d0010,d0010,d0010").due("all()", 780);
        play("u13;009,d1000,d1000").due("all()", 0);
        Play last = play("u01;009,d0010");
        last.due("gift(0,0,9)", 0);
        last.due("all()", 1);
        last.due("gift(0,9,1)", 1);
        last.due("all()", 0);
    }

    @Says(promise = 13, text = "ALL. STATE: there are no HOUSES.")
    private static void refusalOfAll() {
        withoutHouses().refused("all()", Play.STATE);
    }

    @Says(promise = 14, text = "BREAKS: the first HALF (14 times the WEEK, and it) behind which a HOUSE is BROKEN.")
    private static void theSoonestAndTheLatestBreak() {
        Play soonest = play("u13;001,d0000,d0000,d0000,d0000,d0000,d0000");
        soonest.due("breaks(0)", 1);
        soonest.due("cold(0,1)", 48);
        Play latest = play("u13;001;001,d1000");
        latest.due("breaks(0)", 139);
        latest.due("cold(9,13)", 0);
        latest.due("breaks(1)", Play.NONE);
        play("u13;002,d1000").due("breaks(0)", Play.NONE);
        play("u10;001,d0000").due("breaks(0)", 9);
        play("u09;001,d0000").due("breaks(0)", 14);
        play("u09;001,d0000,d1000").due("breaks(0)", 9);
    }

    @Says(promise = 14, text = "BREAKS; NONE: it does not. UNKNOWN.")
    private static void refusalsOfBreaks() {
        Play x = play("u07;009;009,d0000");
        x.due("breaks(1)", Play.NONE);
        String[] unknown = {"-1", "2", "4", "MIN", "MAX"};
        for (String h : unknown) {
            x.refused("breaks(" + h + ")", Play.UNKNOWN);
        }
        withoutHouses().refused("breaks(0)", Play.UNKNOWN);
    }
}
