/** Promises 3 to 8 and 39: the boundaries that the document names for HOUSES, PERSONS, SEAM, AWAY, GIFTS. */
public final class EdgeHousesTest {
    private static final Check CHECK = new Check();
    private static final String FULL_TEXT = "u07;001;999;505;103,d0000,d0059,h0100,h0159,f1300,f1359";

    public static void main(String[] args) throws Exception {
        new Edges(CHECK, args).run(EdgeHousesTest.class);
    }

    private static Play play(String text) {
        return new Play(CHECK, text);
    }

    private static Play withoutHouses() {
        return new Play(CHECK);
    }

    @Says(promise = 3, text = "Of a HOUSE: 0 WOOD that COMES, 1 BEARS.")
    private static void whatAHouseIs() {
        Play x = play("u07;001;999,d0000");
        x.due("ofHouse(0,0)", 0);
        x.due("ofHouse(0,1)", 1);
        x.due("ofHouse(1,0)", 99);
        x.due("ofHouse(1,1)", 9);
    }

    @Says(promise = 3, text = "UNKNOWN; OUTSIDE.")
    private static void refusalsOfOfHouse() {
        Play x = play(FULL_TEXT);
        x.due("ofHouse(3,1)", 3);
        String[] unknown = {"-1", "4", "MIN", "MAX"};
        for (String h : unknown) {
            x.refused("ofHouse(" + h + ",0)", Play.UNKNOWN);
            x.refused("ofHouse(" + h + ",2)", Play.UNKNOWN);
        }
        String[] outside = {"-1", "2", "MIN", "MAX"};
        for (String what : outside) {
            x.refused("ofHouse(0," + what + ")", Play.OUTSIDE);
            x.refused("ofHouse(3," + what + ")", Play.OUTSIDE);
        }
        play("u07;001,d0000").refused("ofHouse(1,0)", Play.UNKNOWN);
        withoutHouses().refused("ofHouse(0,0)", Play.UNKNOWN);
        withoutHouses().refused("ofHouse(0,2)", Play.UNKNOWN);
    }

    @Says(promise = 4, text = "Of a PERSON: 0 kind, 1 TOWN, 2 HOUSE, 3 BURNS, 4 MENDS, 5 WANTS, 6 whether it is AWAY (1, 0).")
    private static void whatAPersonIs() {
        Play x = play(FULL_TEXT);
        x.due("away(5,true)", 1);
        int[][] told = {{0, 0, 0, 0, 0, 0, 0}, {0, 0, 0, 5, 9, 5, 0}, {1, 0, 1, 0, 0, 1, 0},
            {1, 0, 1, 5, 9, 6, 0}, {2, 1, 3, 0, 0, 2, 0}, {2, 1, 3, 5, 9, 12, 1}};
        for (int p = 0; p < 6; p++) {
            for (int what = 0; what < 7; what++) {
                x.due("ofPerson(" + p + "," + what + ")", told[p][what]);
            }
        }
    }

    @Says(promise = 4, text = "a DWELLER what it BURNS; a HEARTY 1 more; a FROWARD one twice what a HEARTY does.")
    private static void wantsOfTheLeastAndTheMost() {
        // By the most the last of them wants 12, which is more than is left: it takes none.
        int[] left = {17, 13, 9, 5, 1, 9};
        for (int burns = 0; burns <= 5; burns++) {
            Play x = play("u07;209,d00" + burns + "0,h00" + burns + "0,f00" + burns + "0");
            x.due("ofPerson(0,5)", burns);
            x.due("ofPerson(1,5)", burns + 1);
            x.due("ofPerson(2,5)", 2 * burns + 2);
            x.due("wood(0,0,0)", left[burns]);
        }
    }

    @Says(promise = 4, text = "UNKNOWN; OUTSIDE.")
    private static void refusalsOfOfPerson() {
        Play x = play(FULL_TEXT);
        x.due("ofPerson(5,3)", 5);
        String[] unknown = {"-1", "6", "MIN", "MAX"};
        for (String p : unknown) {
            x.refused("ofPerson(" + p + ",0)", Play.UNKNOWN);
            x.refused("ofPerson(" + p + ",7)", Play.UNKNOWN);
        }
        String[] outside = {"-1", "7", "MIN", "MAX"};
        for (String what : outside) {
            x.refused("ofPerson(0," + what + ")", Play.OUTSIDE);
            x.refused("ofPerson(5," + what + ")", Play.OUTSIDE);
        }
        play("u07;001,d0000").refused("ofPerson(1,0)", Play.UNKNOWN);
        withoutHouses().refused("ofPerson(0,0)", Play.UNKNOWN);
        withoutHouses().refused("ofPerson(0,7)", Play.UNKNOWN);
    }

    @Says(promise = 5, text = "The SEAM becomes v: what it was.")
    private static void theSeamBecomesEachOf1To13() {
        Play x = play("u07;209,d0000");
        int was = 7;
        int[] seams = {1, 13, 13, 2, 12, 7, 6, 1};
        for (int v : seams) {
            x.due("seam(" + v + ")", was);
            x.due("many(2)", v);
            x.due("wear(0,0,13)", v);
            was = v;
        }
    }

    @Says(promise = 5, text = "OUTSIDE; STATE: there are no HOUSES.")
    private static void refusalsOfSeam() {
        Play x = play("u07;209,d0000");
        String[] outside = {"0", "14", "-1", "15", "MIN", "MAX"};
        for (String v : outside) {
            x.refused("seam(" + v + ")", Play.OUTSIDE);
            withoutHouses().refused("seam(" + v + ")", Play.OUTSIDE);
        }
        for (int v = 1; v <= 13; v++) {
            withoutHouses().refused("seam(" + v + ")", Play.STATE);
        }
    }

    @Says(promise = 6, text = "A PERSON is AWAY (true), or not: 1; 0: it was so.")
    private static void awayOrNot() {
        Play x = play("u07;209,d0000,d0000,d0000,d0000,d0000,d0000");
        int[] persons = {0, 5, 2};
        for (int p : persons) {
            x.due("away(" + p + ",false)", 0);
            x.due("ofPerson(" + p + ",6)", 0);
            x.due("away(" + p + ",true)", 1);
            x.due("ofPerson(" + p + ",6)", 1);
            x.due("wear(0,0,0)", 5);
            x.due("away(" + p + ",true)", 0);
            x.due("ofPerson(" + p + ",6)", 1);
            x.due("away(" + p + ",false)", 1);
            x.due("ofPerson(" + p + ",6)", 0);
            x.due("wear(0,0,0)", 6);
        }
        for (int p = 0; p < 6; p++) {
            x.due("away(" + p + ",true)", 1);
            x.due("wear(0,0,0)", 5 - p);
        }
    }

    @Says(promise = 6, text = "UNKNOWN.")
    private static void refusalsOfAway() {
        Play x = play("u07;209,d0000,d0000");
        x.due("away(0,true)", 1);
        String[] unknown = {"-1", "2", "6", "32", "33", "MIN", "MAX"};
        for (String p : unknown) {
            x.refused("away(" + p + ",true)", Play.UNKNOWN);
            x.refused("away(" + p + ",false)", Play.UNKNOWN);
        }
        withoutHouses().refused("away(0,true)", Play.UNKNOWN);
        withoutHouses().refused("away(0,false)", Play.UNKNOWN);
        play(FULL_TEXT).refused("away(6,true)", Play.UNKNOWN);
    }

    @Says(promise = 7, text = "wood (1 .. 99) to a HOUSE in a WEEK.")
    private static void theLeastAndTheMostWoodOfAGift() {
        Play x = play("u07;001;001,d0000");
        x.due("gift(0,0,1)", 0);
        x.due("gift(1,9,99)", 1);
        x.due("gift(1,0,98)", 2);
        x.due("wood(0,0,0)", 1);
        x.due("wood(0,9,13)", 1);
        x.due("wood(1,0,0)", 98);
        x.due("wood(1,8,13)", 98);
        x.due("wood(1,9,0)", 99);
        String[] outside = {"0", "100", "-1", "MIN", "MAX"};
        for (String wood : outside) {
            x.refused("gift(0,0," + wood + ")", Play.OUTSIDE);
            x.refused("gift(1,9," + wood + ")", Play.OUTSIDE);
        }
    }

    @Says(promise = 7, text = "GIFTS, 6 at most, numbered by how many there are")
    private static void sixGiftsAtMost() {
        Play x = play("u07;001;001,d0000");
        for (int k = 0; k < 6; k++) {
            x.due("gift(" + k % 2 + "," + k / 2 + "," + (k + 1) + ")", k);
            x.due("many(3)", k + 1);
        }
        x.refused("gift(0,0,1)", Play.FULL);
        x.refused("gift(1,9,99)", Play.FULL);
        x.due("undo(1)", 5);
        x.due("gift(1,9,50)", 5);
        x.refused("gift(0,0,1)", Play.FULL);
        x.due("undo(6)", 0);
        x.due("gift(0,0,7)", 0);
        x.due("wood(0,0,0)", 7);
        x.due("wood(1,9,13)", 0);
    }

    @Says(promise = 7, text = "A GIFT: its number. UNKNOWN: HOUSE; OUTSIDE: week, wood; FULL.")
    private static void refusalsOfGiftInTheirOrder() {
        Play x = play("u07;001;001,d0000");
        for (int full = 0; full < 2; full++) {
            String[] unknown = {"-1", "2", "4", "MIN", "MAX"};
            for (String h : unknown) {
                x.refused("gift(" + h + ",0,1)", Play.UNKNOWN);
                x.refused("gift(" + h + ",10,0)", Play.UNKNOWN);
            }
            String[] weeks = {"-1", "10", "MIN", "MAX"};
            for (String week : weeks) {
                x.refused("gift(0," + week + ",1)", Play.OUTSIDE);
                x.refused("gift(1," + week + ",0)", Play.OUTSIDE);
            }
            x.refused("gift(0,0,0)", Play.OUTSIDE);
            x.refused("gift(0,0,100)", Play.OUTSIDE);
            for (int k = 0; k < 6 && full == 0; k++) {
                x.due("gift(1," + k + ",1)", k);
            }
        }
        x.refused("gift(0,0,1)", Play.FULL);
        withoutHouses().refused("gift(0,0,1)", Play.UNKNOWN);
        withoutHouses().refused("gift(0,10,100)", Play.UNKNOWN);
    }

    @Says(promise = 8, text = "The last k GIFTS (0 .. as many as there are) are taken back: how many are left. OUTSIDE.")
    private static void giftsAreTakenBackFromTheLastOn() {
        Play x = play("u07;001,d0000");
        x.due("undo(0)", 0);
        x.refused("undo(1)", Play.OUTSIDE);
        for (int k = 0; k < 6; k++) {
            x.due("gift(0,0," + (1 << k) + ")", k);
            x.refused("undo(" + (k + 2) + ")", Play.OUTSIDE);
            x.refused("undo(-1)", Play.OUTSIDE);
        }
        x.refused("undo(MIN)", Play.OUTSIDE);
        x.refused("undo(MAX)", Play.OUTSIDE);
        x.due("wood(0,0,0)", 63);
        x.due("undo(0)", 6);
        x.due("wood(0,0,0)", 63);
        x.due("undo(1)", 5);
        x.due("wood(0,0,0)", 31);
        x.due("undo(2)", 3);
        x.due("wood(0,0,0)", 7);
        x.refused("undo(4)", Play.OUTSIDE);
        x.due("undo(3)", 0);
        x.due("wood(0,0,0)", 0);
        x.refused("undo(1)", Play.OUTSIDE);
        Play none = withoutHouses();
        none.due("undo(0)", 0);
        none.refused("undo(1)", Play.OUTSIDE);
        none.refused("undo(-1)", Play.OUTSIDE);
    }

    @Says(promise = 39, text = "How many: 0 HOUSES, 1 PERSONS, 2 the SEAM, 3 GIFTS, 4 READINGS (0 all without HOUSES). OUTSIDE.")
    private static void howMany() {
        Play none = withoutHouses();
        Play x = play(FULL_TEXT);
        x.due("seam(13)", 7);
        for (int k = 0; k < 6; k++) {
            x.due("gift(0,0,1)", k);
        }
        for (int k = 0; k < 8; k++) {
            x.due("reading(0,0,0,0)", k);
        }
        int[] told = {4, 6, 13, 6, 8};
        for (int what = 0; what < 5; what++) {
            none.due("many(" + what + ")", 0);
            x.due("many(" + what + ")", told[what]);
        }
        String[] outside = {"-1", "5", "MIN", "MAX"};
        for (String what : outside) {
            none.refused("many(" + what + ")", Play.OUTSIDE);
            x.refused("many(" + what + ")", Play.OUTSIDE);
        }
    }
}
