/** Promises 20 to 28: the boundaries that the document names for TOGETHER, THIRD, rows, READINGS, ODDS. */
public final class EdgeSeenTest {
    private static final Check CHECK = new Check();
    private static final int ALL_HALVES = (1 << 14) - 1;
    private static final int ALL_SEAMS = (1 << 14) - 2;
    private static final String[] NO_PERSONS = {"-1", "3", "6", "MIN", "MAX"};
    private static final String[] NO_WEEKS = {"-1", "10", "MIN", "MAX"};

    public static void main(String[] args) throws Exception {
        new Edges(CHECK, args).run(EdgeSeenTest.class);
    }

    private static Play play(String text) {
        return new Play(CHECK, text);
    }

    private static Play withoutHouses() {
        return new Play(CHECK);
    }

    private static boolean isIn(int town, int half, int seam) {
        return town == 0 ? half < seam : half >= seam;
    }

    /** In how many HALVES one of a town who stays meets one of the other, counted half by half. */
    private static int meetings(int town, int seam, int stays) {
        int met = 0;
        int half = town == 0 ? seam : 0;
        for (int k = 0; k < stays && !isIn(town, half, seam); k++) {
            met++;
            half = (half + 1) % 14;
        }
        return met;
    }

    @Says(promise = 20, text = "if the first one STAYS so many HALVES (0 .. 13) more behind its TOWN's time")
    private static void staysOf0To13ByEachSeam() {
        Play x = play("u01;999,d0010,d1010");
        for (int seam = 1; seam <= 13; seam++) {
            x.answer("seam(" + seam + ")");
            for (int stays = 0; stays <= 13; stays++) {
                x.due("together(0,1," + stays + ")", meetings(0, seam, stays));
                x.due("together(1,0," + stays + ")", meetings(1, seam, stays));
            }
        }
    }

    @Says(promise = 20, text = "(from HALF 13 to HALF 0; not longer than till its TOWN is in again")
    private static void staysFromHalf13ToHalf0AndNoLonger() {
        Play x = play("u13;999,d0010,d1010");
        x.due("together(1,0,0)", 0);
        x.due("together(1,0,1)", 1);
        x.due("together(1,0,13)", 13);
        x.due("together(0,1,1)", 1);
        x.due("together(0,1,2)", 1);
        x.due("together(0,1,13)", 1);
        x.due("seam(1)", 13);
        x.due("together(1,0,1)", 1);
        x.due("together(1,0,2)", 1);
        x.due("together(1,0,13)", 1);
        x.due("together(0,1,13)", 13);
        x.due("together(0,1,12)", 12);
    }

    @Says(promise = 20, text = "TOGETHER: in how many HALVES of a WEEK two PERSONS are both in one HOUSE")
    private static void togetherInOneHouseOnly() {
        Play x = play("u04;999;999,d0010,d0010,d1010,d1010,d0110,d1110");
        for (int stays = 0; stays <= 13; stays += 13) {
            x.due("together(0,1," + stays + ")", 4);
            x.due("together(1,0," + stays + ")", 4);
            x.due("together(2,3," + stays + ")", 10);
            x.due("together(0,4," + stays + ")", 0);
            x.due("together(0,5," + stays + ")", 0);
            x.due("together(5,0," + stays + ")", 0);
            x.due("together(3,5," + stays + ")", 0);
        }
        x.due("together(4,5,13)", 10);
        x.due("together(5,4,13)", 4);
    }

    @Says(promise = 20, text = "AWAY does not matter")
    private static void togetherThoughAway() {
        Play x = play("u04;999,d0010,d0010,d1010");
        for (int p = 0; p < 3; p++) {
            x.due("away(" + p + ",true)", 1);
            x.due("together(0,1,5)", 4);
            x.due("together(0,2,5)", 5);
            x.due("together(2,0,5)", 4);
        }
    }

    @Says(promise = 20, text = "UNKNOWN: PERSONS (they are one: so, too); OUTSIDE: stays.")
    private static void refusalsOfTogether() {
        Play x = play("u04;999,d0010,d0010,d1010");
        for (String p : NO_PERSONS) {
            x.refused("together(" + p + ",0,0)", Play.UNKNOWN);
            x.refused("together(2," + p + ",0)", Play.UNKNOWN);
            x.refused("together(" + p + ",0,14)", Play.UNKNOWN);
            x.refused("together(0," + p + ",-1)", Play.UNKNOWN);
            x.refused("together(" + p + "," + p + ",0)", Play.UNKNOWN);
        }
        for (int p = 0; p < 3; p++) {
            x.refused("together(" + p + "," + p + ",0)", Play.UNKNOWN);
            x.refused("together(" + p + "," + p + ",14)", Play.UNKNOWN);
        }
        String[] outside = {"-1", "14", "MIN", "MAX"};
        for (String stays : outside) {
            x.refused("together(0,2," + stays + ")", Play.OUTSIDE);
            x.refused("together(2,0," + stays + ")", Play.OUTSIDE);
            x.refused("together(0,1," + stays + ")", Play.OUTSIDE);
        }
        withoutHouses().refused("together(0,1,0)", Play.UNKNOWN);
        withoutHouses().refused("together(0,0,14)", Play.UNKNOWN);
    }

    @Says(promise = 21, text = "THIRD: HALVES in which in a HOUSE nobody is (by TOWNS, HOUSES, who is AWAY), as a set.")
    private static void halvesInWhichNobodyIs() {
        Play x = play("u01;999;999;999;999,d0010,d1010,d0110,d1210,d0110");
        for (int seam = 1; seam <= 13; seam++) {
            int ahead = (1 << seam) - 1;
            x.answer("seam(" + seam + ")");
            x.due("third(0)", 0);
            x.due("third(1)", ALL_HALVES - ahead);
            x.due("third(2)", ahead);
            x.due("third(3)", ALL_HALVES);
        }
        x.due("away(1,true)", 1);
        x.due("third(0)", 8192);
        x.due("away(0,true)", 1);
        x.due("third(0)", ALL_HALVES);
        x.due("away(1,false)", 1);
        x.due("third(0)", 8191);
        x.due("away(2,true)", 1);
        x.due("third(1)", 8192);
        x.due("away(4,true)", 1);
        x.due("third(1)", ALL_HALVES);
    }

    @Says(promise = 21, text = "THIRD, as a set. UNKNOWN.")
    private static void refusalsOfThird() {
        Play x = play("u04;999;999,d0010");
        String[] unknown = {"-1", "2", "4", "MIN", "MAX"};
        for (String h : unknown) {
            x.refused("third(" + h + ")", Play.UNKNOWN);
        }
        withoutHouses().refused("third(0)", Play.UNKNOWN);
    }

    @Says(promise = 22, text = "how many of them, till one is not, are in at HALF 0, 1, .. of a WEEK (the k-th at HALF k; by TOWNS, who is AWAY)")
    private static void rowsOfNoneToFourteen() {
        Play x = play("u13;999,d0010,d1010,d0010");
        x.fill(1, 2, 0, 0, 0, 0, 0, 0, 0, 0, 0, 0, 0, 0, 0, 1, 1);
        for (int n = 0; n <= 14; n++) {
            x.due("row(1,2,0," + n + ")", n);
        }
        x.due("row(1,2,1,14)", 12);
        x.due("row(1,2,2,13)", 11);
        x.due("row(1,2,13,2)", 0);
        x.due("row(1,2,15,0)", 0);
        x.due("seam(12)", 13);
        x.due("row(1,2,0,14)", 12);
        x.due("row(1,2,1,13)", 13);
        x.due("row(1,2,1,14)", 14);
        x.due("seam(1)", 12);
        x.due("row(1,2,0,14)", 1);
        x.due("row(1,2,12,3)", 3);
        x.due("away(1,true)", 1);
        x.due("row(1,2,12,3)", 1);
        x.due("away(0,true)", 1);
        x.due("row(1,2,12,3)", 0);
        x.due("put(1,12,2)", 1);
        x.due("row(1,2,12,3)", 1);
    }

    @Says(promise = 22, text = "UNKNOWN: SHEET; OUTSIDE: lane; FAULTS CAST, NULL, SIZE, INDEX; STATE: there are no HOUSES; "
        + "OUTSIDE: n above 14; UNKNOWN: a PERSON.")
    private static void refusalsOfRowInTheirOrder() {
        Play told = play("u13;999,d0010,d1010,d0010");
        told.due("lose(0)", 1);
        Play untold = withoutHouses();
        Play[] both = {told, untold};
        for (Play x : both) {
            for (int lane = 0; lane < 3; lane++) {
                x.fill(1 + lane, lane, 9, 0, 0, 0, 0, 0, 0, 0, 0, 0, 0, 0, 0, 0, 0);
            }
            String[] sheets = {"-1", "4", "MIN", "MAX"};
            for (String sheet : sheets) {
                x.refused("row(" + sheet + ",0,0,1)", Play.UNKNOWN);
                x.refused("row(" + sheet + ",3,-1,-1)", Play.UNKNOWN);
            }
            String[] lanes = {"-1", "3", "MIN", "MAX"};
            for (String lane : lanes) {
                x.refused("row(1," + lane + ",0,1)", Play.OUTSIDE);
                x.refused("row(0," + lane + ",-1,-1)", Play.OUTSIDE);
            }
            for (int lane = 0; lane < 3; lane++) {
                x.refused("row(0," + lane + ",0,0)", Play.NULL);
                x.refused("row(0," + lane + ",-1,-1)", Play.NULL);
                x.refused("row(0," + lane + ",0,15)", Play.NULL);
                int other = (lane + 1) % 3;
                x.refused("row(" + (1 + lane) + "," + other + ",1,1)", Play.CAST);
                x.refused("row(" + (1 + lane) + "," + other + ",-1,-1)", Play.CAST);
                x.refused("row(" + (1 + lane) + "," + other + ",0,16)", Play.CAST);
                x.refused("row(" + (1 + lane) + "," + lane + ",16,-1)", Play.SIZE);
            }
        }
    }

    @Says(promise = 22, text = "FAULTS CAST, NULL, SIZE, INDEX; STATE: there are no HOUSES")
    private static void cellsOfARowAheadOfTheState() {
        Play told = play("u13;999,d0010,d1010,d0010");
        Play untold = withoutHouses();
        Play[] both = {told, untold};
        for (Play x : both) {
            x.due("sheet(1,1,15)", 1);
            x.refused("row(1,1,0,-1)", Play.SIZE);
            x.refused("row(1,1,0,MIN)", Play.SIZE);
            x.refused("row(1,1,-1,-1)", Play.SIZE);
            x.refused("row(1,1,-1,1)", Play.INDEX);
            x.refused("row(1,1,0,16)", Play.INDEX);
            x.refused("row(1,1,1,15)", Play.INDEX);
            x.refused("row(1,1,15,1)", Play.INDEX);
            x.refused("row(1,1,16,0)", Play.INDEX);
            x.refused("row(1,1,-1,0)", Play.INDEX);
            x.refused("row(1,1,MIN,0)", Play.INDEX);
            x.refused("row(1,1,MAX,0)", Play.INDEX);
            x.refused("row(1,1,1,MAX)", Play.INDEX);
            x.refused("row(1,1,MAX,MAX)", Play.INDEX);
        }
        untold.refused("row(1,1,0,14)", Play.STATE);
        untold.refused("row(1,1,0,15)", Play.STATE);
        untold.refused("row(1,1,15,0)", Play.STATE);
        told.due("row(1,1,15,0)", 0);
        told.due("row(1,1,0,14)", 13);
    }

    @Says(promise = 22, text = "OUTSIDE: n above 14; UNKNOWN: a PERSON.")
    private static void longRowsAndUnknownPersons() {
        Play x = play("u13;999,d0010,d1010,d0010");
        x.fill(1, 2, 0, 0, 2, 0, 0, 0, 0, 0, 0, 0, 0, 0, 0, 1, 3);
        x.due("row(1,2,0,14)", 14);
        x.refused("row(1,2,0,15)", Play.OUTSIDE);
        x.refused("row(1,2,1,14)", Play.UNKNOWN);
        x.due("row(1,2,1,13)", 12);
        int[] unknown = {3, -1, 6, 256, Integer.MIN_VALUE, Integer.MAX_VALUE};
        for (int p : unknown) {
            x.due("put(1,14," + p + ")", 1);
            x.refused("row(1,2,14,1)", Play.UNKNOWN);
            x.refused("row(1,2,0,15)", Play.OUTSIDE);
            // One of TOWN 1 is not in at HALF 0: the unknown one behind it is asked for none the less.
            x.refused("row(1,2,13,2)", Play.UNKNOWN);
            x.due("row(1,2,13,1)", 0);
        }
        x.due("put(1,14,2)", 1);
        x.due("row(1,2,14,1)", 1);
        // What is ahead of the row, or behind it, is not asked.
        x.fill(1, 2, 3, 0, 0, -1);
        x.due("row(1,2,1,2)", 2);
        x.due("row(1,2,1,0)", 0);
        x.due("row(1,2,4,0)", 0);
        x.refused("row(1,2,0,2)", Play.UNKNOWN);
        x.refused("row(1,2,1,3)", Play.UNKNOWN);
    }

    @Says(promise = 23, text = "READINGS, 8 at most, numbered by how many there are")
    private static void eightReadingsAtMost() {
        Play x = play("u07;009;009,d0000");
        for (int k = 0; k < 8; k++) {
            x.due("reading(0,0," + k + "," + Math.min(7, k + 1) + ")", k);
            x.due("many(4)", k + 1);
        }
        x.refused("reading(0,0,0,1)", Play.FULL);
        x.refused("reading(1,9,13,99)", Play.FULL);
        x.due("seams()", 1 << 7);
        x.due("back(1)", 7);
        x.due("seams()", ALL_SEAMS & ~127);
        x.due("reading(0,0,0,0)", 7);
        x.due("seams()", 0);
        x.refused("reading(0,0,0,1)", Play.FULL);
        x.due("back(8)", 0);
        x.due("reading(0,0,13,3)", 0);
        x.due("seams()", 8);
    }

    @Says(promise = 23, text = "UNKNOWN: HOUSE; OUTSIDE: week, half, v (0 .. 99); FULL.")
    private static void refusalsOfReadingInTheirOrder() {
        Play x = play("u07;009;009,d0000");
        String[] halves = {"-1", "14", "MIN", "MAX"};
        String[] wears = {"-1", "100", "MIN", "MAX"};
        String[] unknown = {"-1", "2", "4", "MIN", "MAX"};
        for (int full = 0; full < 2; full++) {
            for (String h : unknown) {
                x.refused("reading(" + h + ",0,0,0)", Play.UNKNOWN);
                x.refused("reading(" + h + ",10,14,100)", Play.UNKNOWN);
            }
            for (String week : NO_WEEKS) {
                x.refused("reading(1," + week + ",0,0)", Play.OUTSIDE);
            }
            for (String half : halves) {
                x.refused("reading(1,9," + half + ",0)", Play.OUTSIDE);
            }
            for (String v : wears) {
                x.refused("reading(1,9,13," + v + ")", Play.OUTSIDE);
            }
            for (int k = 0; k < 8 && full == 0; k++) {
                x.due("reading(" + k % 2 + "," + (k < 4 ? 0 : 9) + "," + (k < 2 ? 0 : 13) + "," + (k < 6 ? 0 : 99) + ")", k);
            }
        }
        x.refused("reading(0,0,0,0)", Play.FULL);
        withoutHouses().refused("reading(0,0,0,0)", Play.UNKNOWN);
        withoutHouses().refused("reading(0,10,14,100)", Play.UNKNOWN);
    }

    @Says(promise = 24, text = "The last k READINGS (0 .. as many as there are) are taken back: how many are left. OUTSIDE.")
    private static void readingsAreTakenBackFromTheLastOn() {
        Play x = play("u07;009,d0000");
        x.due("back(0)", 0);
        x.refused("back(1)", Play.OUTSIDE);
        for (int k = 0; k < 8; k++) {
            x.due("reading(0,0," + k + "," + (k + 1) + ")", k);
            x.refused("back(" + (k + 2) + ")", Play.OUTSIDE);
            x.refused("back(-1)", Play.OUTSIDE);
        }
        x.refused("back(MIN)", Play.OUTSIDE);
        x.refused("back(MAX)", Play.OUTSIDE);
        int seamsBehind7 = ALL_SEAMS & ~255;
        x.due("seams()", seamsBehind7);
        x.due("back(0)", 8);
        x.due("seams()", seamsBehind7);
        x.due("back(1)", 7);
        x.due("seams()", seamsBehind7 | 1 << 7);
        x.due("back(3)", 4);
        x.due("seams()", ALL_SEAMS & ~15);
        x.refused("back(5)", Play.OUTSIDE);
        x.due("back(4)", 0);
        x.due("seams()", ALL_SEAMS);
        x.refused("back(1)", Play.OUTSIDE);
        Play none = withoutHouses();
        none.due("back(0)", 0);
        none.refused("back(1)", Play.OUTSIDE);
        none.refused("back(-1)", Play.OUTSIDE);
    }

    @Says(promise = 23, text = "as a HALF of a WEEK ended, a HOUSE had WEAR v")
    private static void readingsOfTheFirstAndTheLastHalf() {
        Play x = play("u09;009;009,d0000,d1000");
        x.due("reading(0,0,0,1)", 0);
        x.due("reading(1,9,13,0)", 1);
        x.due("seams()", ALL_SEAMS);
        x.due("reading(0,9,13,90)", 2);
        x.due("seams()", ALL_SEAMS);
        x.due("reading(0,9,13,89)", 3);
        x.due("seams()", 0);
        x.due("back(1)", 3);
        x.due("reading(1,9,13,1)", 3);
        x.due("seams()", 0);
        x.due("back(1)", 3);
        x.due("reading(0,0,13,14)", 3);
        x.due("seams()", ALL_SEAMS);
        x.due("reading(0,1,0,15)", 4);
        x.due("seams()", ALL_SEAMS);
    }

    @Says(promise = 25, text = "GONE: PERSONS such that, were they AWAY, too (each alone), all READINGS are so, as a set.")
    private static void nobodySomeOrAllMayBeGone() {
        Play x = play("u01;009;009,d0000,d0000,d0000,d0000,d0000,d0100");
        x.due("gone()", 63);
        x.due("reading(1,0,0,0)", 0);
        x.due("gone()", 32);
        x.due("reading(0,0,0,4)", 1);
        x.due("gone()", 0);
        x.due("back(2)", 0);
        x.due("reading(0,0,0,4)", 0);
        x.due("gone()", 31);
        x.due("back(1)", 0);
        x.due("reading(0,0,0,3)", 0);
        x.due("gone()", 0);
        x.due("away(0,true)", 1);
        x.due("gone()", 30);
        x.due("ofPerson(1,6)", 0);
        x.due("many(4)", 1);
    }

    @Says(promise = 25, text = "were they AWAY, too (each alone)")
    private static void goneThoughAwayAlready() {
        Play x = play("u01;009,d0000,d0000,d0000");
        x.due("away(2,true)", 1);
        x.due("gone()", 7);
        x.due("reading(0,0,0,2)", 0);
        // As things are it is so, and they stay so with the one away who is.
        x.due("gone()", 4);
        x.due("back(1)", 0);
        x.due("reading(0,0,0,1)", 0);
        x.due("gone()", 3);
        x.due("back(1)", 0);
        x.due("reading(0,0,0,0)", 0);
        x.due("gone()", 0);
        x.due("away(1,true)", 1);
        x.due("gone()", 1);
    }

    @Says(promise = 25, text = "GONE, as a set. STATE: there are no HOUSES.")
    private static void refusalOfGone() {
        withoutHouses().refused("gone()", Play.STATE);
    }

    @Says(promise = 26, text = "SEAMS: those (1 .. 13) by which all READINGS are so, as a set.")
    private static void theFirstAndTheLastOfTheSeams() {
        Play x = play("u07;009,d0000");
        x.due("seams()", ALL_SEAMS);
        for (int v = 0; v <= 14; v++) {
            x.due("reading(0,0,13," + v + ")", 0);
            x.due("seams()", v >= 1 && v <= 13 ? 1 << v : 0);
            x.due("back(1)", 0);
        }
        x.due("reading(0,9,13,90)", 0);
        x.due("seams()", ALL_SEAMS & ~511);
        x.due("reading(0,0,13,13)", 1);
        x.due("seams()", 1 << 13);
        x.due("many(2)", 7);
    }

    @Says(promise = {26, 27}, text = "by which all READINGS are so, as a set.")
    private static void seamsAndKindsWithWhoIsAway() {
        Play x = play("u07;009,d0000,d0000");
        x.due("reading(0,0,13,13)", 0);
        x.due("seams()", 0);
        x.due("away(1,true)", 1);
        x.due("seams()", 1 << 13);
        x.due("away(0,true)", 1);
        x.due("seams()", 0);
        x.due("back(1)", 0);
        x.due("reading(0,9,13,0)", 0);
        x.due("seams()", ALL_SEAMS);
        Play kinds = play("u01;009,f0001,d0000");
        kinds.due("reading(0,0,0,1)", 0);
        kinds.due("kinds(0)", 1);
        kinds.due("away(1,true)", 1);
        kinds.due("kinds(0)", 6);
        kinds.due("away(0,true)", 1);
        kinds.due("kinds(0)", 0);
        kinds.due("away(1,false)", 1);
        kinds.due("kinds(0)", 7);
    }

    @Says(promise = 26, text = "SEAMS, as a set. STATE: there are no HOUSES.")
    private static void refusalOfSeams() {
        withoutHouses().refused("seams()", Play.STATE);
    }

    @Says(promise = 27, text = "KINDS of a PERSON: those (0 .. 2), in place of its own, by which all READINGS are so, as a set.")
    private static void noneToAllOfTheKinds() {
        String[] letters = {"d", "h", "f"};
        for (int kind = 0; kind < 3; kind++) {
            Play x = play("u01;019;009," + letters[kind] + "0001," + letters[kind] + "0101");
            x.due("kinds(0)", 7);
            x.due("kinds(1)", 7);
            x.due("reading(0,0,0,0)", 0);
            x.due("kinds(0)", 3);
            x.due("back(1)", 0);
            x.due("reading(0,0,0,1)", 0);
            x.due("kinds(0)", 4);
            x.due("back(1)", 0);
            x.due("reading(1,0,0,0)", 0);
            x.due("kinds(1)", 1);
            x.due("back(1)", 0);
            x.due("reading(1,0,0,1)", 0);
            x.due("kinds(1)", 6);
            x.due("reading(1,9,13,99)", 1);
            x.due("kinds(1)", 0);
            x.due("ofPerson(1,0)", kind);
        }
    }

    @Says(promise = 27, text = "KINDS, as a set. UNKNOWN.")
    private static void refusalsOfKinds() {
        Play x = play("u07;009,d0000,h0000,f0000");
        for (String p : NO_PERSONS) {
            x.refused("kinds(" + p + ")", Play.UNKNOWN);
        }
        withoutHouses().refused("kinds(0)", Play.UNKNOWN);
    }

    private static void dueOdds(Play x, int week, long upper, long lower) {
        x.due("odds(" + week + ",0)", upper);
        x.due("odds(" + week + ",1)", lower);
    }

    @Says(promise = 28, text = "all such sets alike: the share of those by which nobody is COLD by the end of that WEEK.")
    private static void oddsByTheFirstAndTheLastWeek() {
        Play x = play("u01;009,d0010");
        for (int given = 0; given < 6; given++) {
            if (given > 0) {
                dueOdds(x, given - 1, 1, 1);
            }
            dueOdds(x, given, 1, 2);
            dueOdds(x, 9, 1, 2);
            x.due("gift(0,0,1)", given);
        }
        Play last = play("u01;009,d0010");
        last.due("gift(0,0,9)", 0);
        dueOdds(last, 8, 1, 1);
        dueOdds(last, 9, 1, 2);
        last.due("gift(0,9,1)", 1);
        dueOdds(last, 9, 1, 1);
    }

    @Says(promise = 28, text = "if each PERSON is AWAY, or not (in place of what it is)")
    private static void oddsInPlaceOfWhoIsAway() {
        Play x = play("u01;019,d0010,d0010");
        dueOdds(x, 0, 3, 4);
        x.due("away(0,true)", 1);
        dueOdds(x, 0, 3, 4);
        x.due("away(1,true)", 1);
        dueOdds(x, 9, 3, 4);
        x.due("ofPerson(0,6)", 1);
        x.due("ofPerson(1,6)", 1);
    }

    @Says(promise = 28, text = "Shares are told as upper and lower number (above 0) in least terms.")
    private static void oddsInLeastTerms() {
        dueOdds(play("u01;009,d0000"), 9, 1, 1);
        dueOdds(play("u01;009,d0010,d0010,d0010,d0010,d0010,d0010"), 0, 1, 64);
        dueOdds(play("u01;059,d0010,d0010,d0010,d0010,d0010,d0010"), 0, 63, 64);
        dueOdds(play("u01;019,d0010,d0010,d0010,d0010,d0010,d0010"), 0, 7, 64);
        dueOdds(play("u01;029,d0010,d0010,d0010,d0010,d0010,d0010"), 0, 11, 32);
        dueOdds(play("u01;009,d0000,d0000,d0000,d0000,d0010,d0010"), 0, 1, 4);
    }

    @Says(promise = 28, text = "LOST: OUTSIDE: week, which; STATE: there are no HOUSES.")
    private static void refusalsOfOdds() {
        Play x = play("u01;009,d0010");
        for (String week : NO_WEEKS) {
            x.lost("odds(" + week + ",0)", 0);
            x.lost("odds(" + week + ",1)", 0);
        }
        String[] whiches = {"-1", "2", "MIN", "MAX"};
        for (String which : whiches) {
            x.lost("odds(0," + which + ")", 0);
            x.lost("odds(9," + which + ")", 0);
        }
        withoutHouses().lost("odds(0,0)", 0);
        withoutHouses().lost("odds(9,1)", 0);
    }
}
