/** The fullest TEXT: each call with the last of its 4 HOUSES and of its 6 PERSONS; and what comes behind it. */
public final class EdgeFullTest {
    private static final Check CHECK = new Check();
    private static final String HOUSES = "then 1 to 4 HOUSES, numbered from 0 on";
    private static final String PERSONS = "then 1 to 6 PERSONS, numbered from 0 on";
    /**
     * HOUSES 0 and 1 have one of each TOWN and break by WEEK 6, HALF 5; HOUSE 2 has one of TOWN 0 and never
     * breaks; HOUSE 3 has one of TOWN 1 and breaks by WEEK 1, HALF 9.
     */
    private static final String FULLEST = "u07;009;009;009;101,d0000,d0100,d0200,d1000,d1100,d1310";

    public static void main(String[] args) throws Exception {
        new Edges(CHECK, args).run(EdgeFullTest.class);
    }

    private static Play play() {
        return new Play(CHECK, FULLEST);
    }

    @Says(promise = {7, 9, 10, 14}, text = HOUSES)
    private static void theLastHouseThroughTheWeeks() {
        Play x = play();
        x.due("wood(3,0,13)", 3);
        x.due("wood(3,1,9)", 10);
        x.due("wood(3,9,13)", 90);
        x.due("wear(3,0,13)", 7);
        x.due("wear(3,1,9)", 10);
        x.due("wear(3,9,13)", 10);
        x.due("wear(2,9,13)", 70);
        x.due("breaks(0)", 89);
        x.due("breaks(1)", 89);
        x.due("breaks(2)", Play.NONE);
        x.due("breaks(3)", 23);
        x.due("gift(3,9,99)", 0);
        x.due("wood(3,9,13)", 99);
        x.due("wood(2,9,13)", 0);
        x.due("away(5,true)", 1);
        x.due("breaks(3)", Play.NONE);
        x.refused("breaks(4)", Play.UNKNOWN);
        x.refused("gift(4,0,1)", Play.UNKNOWN);
        x.refused("wood(4,0,0)", Play.UNKNOWN);
        x.refused("wear(4,0,0)", Play.UNKNOWN);
    }

    @Says(promise = {11, 12, 13}, text = PERSONS)
    private static void theLastPersonThroughTheWeeks() {
        Play x = play();
        x.due("cold(1,9)", 0);
        x.due("cold(1,10)", 32);
        x.due("cold(9,0)", 3);
        x.due("cold(9,13)", 56);
        x.due("chills(5,1)", 4);
        x.due("chills(5,9)", 60);
        x.due("all()", 160);
        x.refused("chills(6,0)", Play.UNKNOWN);
    }

    @Says(promise = {15, 16, 17}, text = PERSONS)
    private static void bestBlameAndWarmOfSix() {
        Play x = play();
        // 140 by each from 9 to 13: HOUSE 3 has 10 a SEAM less, HOUSE 2 as many more.
        x.due("best(0)", 9);
        x.due("best(1)", 140);
        int[] blame = {1028, 1028, 1000, 1022, 1022, 1000};
        int[] warm = {8, 16, 0, 1, 2, Play.NONE};
        for (int p = 0; p < 6; p++) {
            x.due("blame(" + p + ")", blame[p]);
            x.due("warm(" + p + ")", warm[p]);
        }
    }

    @Says(promise = {18, 21}, text = HOUSES)
    private static void logsAndThirdsOfFour() {
        Play x = play();
        int[] third = {0, 0, 16383 - 127, 127};
        for (int h = 0; h < 4; h++) {
            x.due("logs(" + h + ")", 0);
            x.due("third(" + h + ")", third[h]);
        }
        x.due("seam(1)", 7);
        x.due("logs(3)", Play.NONE);
        x.due("third(3)", 1);
        x.refused("logs(4)", Play.UNKNOWN);
        x.refused("third(4)", Play.UNKNOWN);
    }

    @Says(promise = 19, text = "by how much less WEAR all HOUSES have together as that WEEK ends")
    private static void paysOfSixByAllFourHouses() {
        Play x = play();
        long[] upper = {1, 1, 7, 1, 1, 1};
        long[] lower = {8, 8, 16, 8, 8, 16};
        for (int p = 0; p < 6; p++) {
            x.due("pays(" + p + ",0,0)", 1);
            x.due("pays(" + p + ",0,1)", 6);
            x.due("pays(" + p + ",9,0)", upper[p]);
            x.due("pays(" + p + ",9,1)", lower[p]);
        }
        x.lost("pays(6,0,0)", 0);
    }

    @Says(promise = {20, 22, 27}, text = PERSONS)
    private static void theLastPersonTogetherAndAsked() {
        Play x = play();
        x.due("together(5,0,13)", 0);
        x.due("together(0,5,13)", 0);
        x.due("together(4,1,13)", 7);
        x.fill(1, 0, 0, 1, 2, 0, 1, 2, 0, 3, 4, 5, 5, 4, 3, 5);
        x.due("row(1,0,0,14)", 14);
        x.due("away(5,true)", 1);
        x.due("row(1,0,0,14)", 9);
        x.due("kinds(5)", 7);
        x.refused("kinds(6)", Play.UNKNOWN);
        x.due("put(1,0,6)", 1);
        x.refused("row(1,0,0,14)", Play.UNKNOWN);
    }

    @Says(promise = {23, 25, 26, 28}, text = HOUSES)
    private static void readingsOfTheLastHouse() {
        Play x = play();
        for (int k = 0; k < 7; k++) {
            x.due("reading(3,0," + (7 + k) + "," + (1 + k) + ")", k);
        }
        x.due("reading(3,9,13,10)", 7);
        x.due("gone()", 31);
        x.due("seams()", 128);
        x.due("kinds(5)", 7);
        x.due("back(7)", 1);
        x.due("gone()", 31);
        x.refused("reading(4,0,0,0)", Play.UNKNOWN);
        long[][] odds = {{0, 1, 1}, {1, 1, 2}, {5, 1, 2}, {6, 9, 32}, {9, 9, 32}};
        for (long[] due : odds) {
            x.due("odds(" + due[0] + ",0)", due[1]);
            x.due("odds(" + due[0] + ",1)", due[2]);
        }
    }

    @Says(promise = {34, 35, 36}, text = PERSONS)
    private static void theLastPersonTellsOfItself() {
        Play x = play();
        x.due("tell(5)", 1);
        x.due("knock(5)", 5);
        x.due("trace()", 31 + 4);
        x.due("as(5,0)", 1);
        x.refused("as(5,1)", Play.CAST);
        x.refused("as(6,0)", Play.UNKNOWN);
    }

    @Says(promise = {2, 39}, text = "A TEXT that is taken makes all anew")
    private static void aSmallTextBehindTheFullest() {
        Play x = play();
        // The weeks of four HOUSES are gone through, so that what is left over of them would be seen.
        x.due("pays(5,9,1)", 16);
        for (int p = 0; p < 6; p++) {
            x.due("away(" + p + ",true)", 1);
        }
        x.take("u07;009,d0000,d1000");
        x.due("many(0)", 1);
        x.due("many(1)", 2);
        x.due("pays(0,9,1)", 2);
        x.due("pays(1,0,1)", 2);
        x.due("third(0)", 0);
        x.due("breaks(0)", 89);
        x.due("all()", 50);
        x.due("gone()", 3);
        x.due("blame(0)", 1028);
        x.due("warm(1)", 1);
        x.due("odds(9,0)", 3);
        x.due("odds(9,1)", 4);
        for (int h = 1; h < 4; h++) {
            x.refused("wear(" + h + ",0,0)", Play.UNKNOWN);
        }
        for (int p = 2; p < 6; p++) {
            x.refused("chills(" + p + ",0)", Play.UNKNOWN);
        }
    }
}
