/** Promises 15 to 19: the boundaries that the document names for BEST, BLAME, WARM, LOGS, PAYS. */
public final class EdgeChillsTest {
    private static final Check CHECK = new Check();
    private static final String[] NO_PERSONS = {"-1", "2", "6", "MIN", "MAX"};

    public static void main(String[] args) throws Exception {
        new Edges(CHECK, args).run(EdgeChillsTest.class);
    }

    private static Play play(String text) {
        return new Play(CHECK, text);
    }

    private static Play withoutHouses() {
        return new Play(CHECK);
    }

    /** BEST, and that asking for it leaves the SEAM. */
    private static void dueBest(Play x, int seam, int all) {
        long before = x.answer("many(2)");
        x.due("best(0)", seam);
        x.due("best(1)", all);
        x.due("many(2)", before);
    }

    @Says(promise = 15, text = "BEST: the SEAM (1 .. 13) by which ALL is the least")
    private static void theFirstAndTheLastSeamAreTried() {
        dueBest(play("u07;009,d0010"), 1, 10);
        dueBest(play("u07;009,d1010"), 13, 10);
        dueBest(play("u13;009,d0010"), 1, 10);
        dueBest(play("u01;009,d1010"), 13, 10);
        dueBest(play("u01;079;079,d0010,d1110"), 7, 0);
        Play x = play("u07;009,d0010,d1010,d1010");
        dueBest(x, 13, 150);
        x.due("away(1,true)", 1);
        x.due("away(2,true)", 1);
        dueBest(x, 1, 10);
        x.due("gift(0,4,1)", 0);
        dueBest(x, 1, 9);
    }

    @Says(promise = 15, text = "by which ALL is the least: of several the least.")
    private static void ofSeveralSeamsTheLeast() {
        dueBest(play("u07;999,d0000"), 1, 0);
        dueBest(play("u13;009,d0000,d1000"), 1, 50);
        dueBest(play("u07;009,d0010,d1010"), 1, 140);
        // From 5 to 9 it is 4 a WEEK: what more the one town is COLD, the other is less.
        dueBest(play("u13;059;059,d0010,d1110"), 5, 40);
    }

    @Says(promise = 15, text = "BEST: the SEAM (what 0), ALL then (1). OUTSIDE; STATE: there are no HOUSES.")
    private static void refusalsOfBest() {
        String[] outside = {"-1", "2", "MIN", "MAX"};
        for (String what : outside) {
            play("u07;009,d0010").refused("best(" + what + ")", Play.OUTSIDE);
            withoutHouses().refused("best(" + what + ")", Play.OUTSIDE);
        }
        withoutHouses().refused("best(0)", Play.STATE);
        withoutHouses().refused("best(1)", Play.STATE);
    }

    @Says(promise = 16, text = "BLAME of a PERSON: how many fewer CHILLS all others have together by WEEK 9, if it is AWAY")
    private static void blameOfNoneOfMostAndOfLess() {
        play("u13;009,d0010").due("blame(0)", 1000);
        Play most = play("u01;129,f0050,d0020,d0020,d0020,d0020,d0020");
        most.due("all()", 50);
        most.due("blame(0)", 1050);
        for (int p = 1; p < 6; p++) {
            most.due("blame(" + p + ")", 1000);
            most.due("ofPerson(" + p + ",6)", 0);
        }
        Play mender = play("u03;991,d0000,d0009");
        mender.due("blame(0)", 1000);
        mender.due("blame(1)", 980);
        Play last = play("u01;009,d0010,d0010");
        last.due("gift(0,0,19)", 0);
        last.due("chills(1,8)", 0);
        last.due("chills(1,9)", 1);
        last.due("blame(0)", 1001);
    }

    @Says(promise = 16, text = "if it is AWAY (alone, beside those who are)")
    private static void blameBesideThoseWhoAreAway() {
        Play x = play("u01;019,d0010,d0010,d0010");
        x.due("blame(0)", 1010);
        x.due("blame(1)", 1000);
        x.due("blame(2)", 1000);
        x.due("away(0,true)", 1);
        x.due("blame(0)", 1000);
        x.due("blame(1)", 1010);
        x.due("blame(2)", 1000);
        x.due("away(1,true)", 1);
        x.due("blame(2)", 1000);
    }

    private static void refusedPersons(String call) {
        Play x = play("u07;009,d0010,d1010");
        x.due("away(1,true)", 1);
        for (String p : NO_PERSONS) {
            x.refused(call + "(" + p + ")", Play.UNKNOWN);
        }
        withoutHouses().refused(call + "(0)", Play.UNKNOWN);
        play("u07;009,d0000,d0000,d0000,d0000,d0000,d0000").refused(call + "(6)", Play.UNKNOWN);
    }

    @Says(promise = 16, text = "BLAME, and 1000. UNKNOWN.")
    private static void refusalsOfBlame() {
        refusedPersons("blame");
    }

    @Says(promise = 17, text = "WARM for a PERSON: the fewest PERSONS to be AWAY")
    private static void warmByNobodyToAllOthers() {
        Play x = play("u01;019,d0010,d0010,d0010,d0010,d0010,d0010");
        for (int p = 0; p < 6; p++) {
            x.due("warm(" + p + ")", (1 << p) - 1);
        }
        x.due("many(1)", 6);
        x.due("ofPerson(0,6)", 0);
        // By 2 alone, or by 0 and 1: the fewest, though its number is not the least.
        play("u01;049,d0010,d0010,d0020,d0020").due("warm(3)", 4);
        Play last = play("u01;009,d0010,d0010");
        last.due("gift(0,0,19)", 0);
        last.due("warm(1)", 1);
        last.due("gift(0,9,1)", 1);
        last.due("warm(1)", 0);
    }

    @Says(promise = 17, text = "(more than are; not itself) so that it is never COLD")
    private static void warmBesideThoseWhoAreAway() {
        Play x = play("u01;019,d0010,d0010,d0010");
        x.due("warm(2)", 3);
        x.due("away(0,true)", 1);
        x.due("warm(2)", 2);
        x.due("warm(1)", 0);
        x.due("warm(0)", 0);
        x.due("away(1,true)", 1);
        x.due("warm(2)", 0);
        Play itself = play("u01;009,d0010,d0010");
        itself.due("warm(1)", Play.NONE);
        itself.due("away(1,true)", 1);
        itself.due("warm(1)", 0);
        itself.due("warm(0)", Play.NONE);
    }

    @Says(promise = 17, text = "as a set: of several the least.")
    private static void ofSeveralSetsTheLeast() {
        play("u01;029,d0010,d0010,d0010").due("warm(2)", 1);
        play("u01;049,d0010,d0010,d0010,d0010,d0010").due("warm(4)", 1);
        play("u01;029,d0010,d0010,d0010,d0010").due("warm(3)", 3);
        play("u01;059,d0010,d0020,d0020,d0020").due("warm(3)", 2);
    }

    @Says(promise = 17, text = "NONE: not by all others. UNKNOWN.")
    private static void warmByNoneAndRefusals() {
        play("u01;009,d0010").due("warm(0)", Play.NONE);
        // Alone it is in for 90 HALVES, or for 100, of which the HOUSE bears 90.
        play("u09;009,d0000,d0000").due("warm(1)", 1);
        play("u10;009,d0000,d0000").due("warm(1)", Play.NONE);
        play("u01;009,d0010,d0010,d0010,d0010,d0010,d0010").due("warm(5)", Play.NONE);
        // Without 0 there is wood enough; without 1, who mends, the HOUSE is BROKEN in WEEK 3: not by all others.
        Play mended = play("u03;031,d0030,d0009,d0010");
        mended.due("warm(2)", 1);
        mended.due("away(1,true)", 1);
        mended.due("warm(2)", Play.NONE);
        refusedPersons("warm");
    }

    @Says(promise = 18, text = "LOGS for a HOUSE: the least wood (0 .. 99)")
    private static void noLogsAndTheMost() {
        play("u01;019,d0010").due("logs(0)", 0);
        play("u01;009,d0010").due("logs(0)", 1);
        play("u11;009,d0050,h0030").due("logs(0)", 99);
        play("u11;019,d0050,h0030").due("logs(0)", 98);
        play("u11;989,d0050,h0030").due("logs(0)", 1);
        play("u11;999,d0050,h0030").due("logs(0)", 0);
        play("u10;009,d0050,d0050").due("logs(0)", Play.NONE);
        play("u10;999,d0050,d0050").due("logs(0)", Play.NONE);
    }

    @Says(promise = 18, text = "as one GIFT more (also where there are 6) in WEEK 0")
    private static void logsBesideSixGifts() {
        Play x = play("u02;009;009,d0030");
        for (int k = 0; k < 6; k++) {
            x.due("logs(0)", 6 - k);
            x.due("gift(0,0,1)", k);
        }
        x.due("logs(0)", 0);
        x.due("undo(1)", 5);
        x.due("gift(0,1,99)", 5);
        x.due("logs(0)", 1);
        x.due("many(3)", 6);
        x.due("wood(0,0,13)", 2);
        x.due("logs(1)", 0);
    }

    @Says(promise = 18, text = "by which nobody in it is COLD in that WEEK.")
    private static void logsForThoseInItInThatWeek() {
        Play x = play("u01;009;009,d0010,d1120");
        x.due("logs(0)", 1);
        x.due("logs(1)", 26);
        x.due("cold(1,0)", 1);
        x.due("away(1,true)", 1);
        x.due("logs(1)", 0);
        x.due("logs(0)", 1);
        x.due("away(0,true)", 1);
        x.due("logs(0)", 0);
        play("u10;001,d0000").due("logs(0)", 0);
        play("u11;001,d0000").due("logs(0)", Play.NONE);
        play("u10;001,d0000,d1000").due("logs(0)", Play.NONE);
    }

    @Says(promise = 18, text = "LOGS; NONE: not by so many. UNKNOWN.")
    private static void refusalsOfLogs() {
        Play x = play("u07;009;009,d0050");
        x.due("gift(0,0,1)", 0);
        String[] unknown = {"-1", "2", "4", "MIN", "MAX"};
        for (String h : unknown) {
            x.refused("logs(" + h + ")", Play.UNKNOWN);
        }
        withoutHouses().refused("logs(0)", Play.UNKNOWN);
    }

    private static void duePays(Play x, int p, int week, long upper, long lower) {
        x.due("pays(" + p + "," + week + ",0)", upper);
        x.due("pays(" + p + "," + week + ",1)", lower);
    }

    @Says(promise = 19, text = "PAYS by a WEEK: of each PERSON by how much less WEAR all HOUSES have together as that WEEK ends")
    private static void paysByTheFirstAndTheLastWeek() {
        // 5 a WEEK by the first, as it mends; 1 a WEEK by the second, till its HOUSE breaks as WEEK 9 ends.
        Play x = play("u13;009;001,d0008,d1100");
        for (int week = 0; week < 10; week++) {
            duePays(x, 0, week, 5, 6);
            duePays(x, 1, week, 1, 6);
        }
        Play late = play("u07;002,d0000,d1000");
        duePays(late, 0, 0, 1, 2);
        // By WEEK 1 the HOUSE is broken at 20, but by one alone it is 14: 6 less by each.
        duePays(late, 0, 1, 1, 2);
        Play unlike = play("u13;009,d0000,d1000");
        duePays(unlike, 0, 0, 13, 14);
        duePays(unlike, 1, 0, 1, 14);
        // By WEEK 9 the first breaks the HOUSE alone, too: it is as worn without the second.
        duePays(unlike, 0, 9, 1, 1);
        duePays(unlike, 1, 9, 0, 1);
    }

    @Says(promise = 19, text = "if it is AWAY (as for BLAME; 0 at least)")
    private static void whoMendsMorePaysNothing() {
        Play x = play("u03;999;999,d0000,d0009,d0100");
        duePays(x, 0, 0, 0, 1);
        duePays(x, 1, 0, 0, 1);
        duePays(x, 2, 0, 1, 1);
        Play away = play("u03;999,d0000,d0000,d0000");
        duePays(away, 0, 0, 1, 3);
        away.due("away(0,true)", 1);
        duePays(away, 0, 0, 0, 1);
        duePays(away, 1, 0, 1, 2);
        away.due("away(1,true)", 1);
        duePays(away, 2, 0, 1, 1);
    }

    @Says(promise = 19, text = "its share of these numbers of all PERSONS together (0, if all are 0).")
    private static void nobodyPays() {
        Play x = play("u03;999,d0000,d0009");
        duePays(x, 0, 0, 0, 1);
        duePays(x, 1, 9, 0, 1);
        Play away = play("u03;999,d0000");
        duePays(away, 0, 0, 1, 1);
        away.due("away(0,true)", 1);
        duePays(away, 0, 0, 0, 1);
    }

    @Says(promise = 19, text = "Shares are told as upper and lower number (above 0) in least terms.")
    private static void paysInLeastTerms() {
        Play x = play("u04;999,d0000,d0000,d0002,d0002");
        duePays(x, 0, 0, 1, 3);
        duePays(x, 1, 0, 1, 3);
        duePays(x, 2, 0, 1, 6);
        duePays(x, 3, 0, 1, 6);
        // All numbers together are 1 alone.
        Play one = play("u01;009;009,d0000,d0101");
        duePays(one, 0, 0, 1, 1);
        duePays(one, 1, 0, 0, 1);
    }

    @Says(promise = 19, text = "LOST: UNKNOWN; OUTSIDE: week, which.")
    private static void refusalsOfPays() {
        Play x = play("u07;009,d0010,d1010");
        for (String p : NO_PERSONS) {
            x.lost("pays(" + p + ",0,0)", 0);
            x.lost("pays(" + p + ",10,2)", 0);
        }
        String[] weeks = {"-1", "10", "MIN", "MAX"};
        for (String week : weeks) {
            x.lost("pays(1," + week + ",0)", 0);
            x.lost("pays(1," + week + ",1)", 0);
        }
        String[] whiches = {"-1", "2", "MIN", "MAX"};
        for (String which : whiches) {
            x.lost("pays(1,0," + which + ")", 0);
            x.lost("pays(1,9," + which + ")", 0);
        }
        withoutHouses().lost("pays(0,0,0)", 0);
    }
}
