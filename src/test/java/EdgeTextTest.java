/** Promises 1 and 2: the boundaries that the document names for a new object and for a TEXT. */
public final class EdgeTextTest {
    private static final Check CHECK = new Check();
    private static final String DIGITS = "0123456789";
    private static final String LONGEST =
        "u13;001;992;503;059,d0050,h1101,f0219,d1302,h0003,f1158";

    public static void main(String[] args) throws Exception {
        new Edges(CHECK, args).run(EdgeTextTest.class);
    }

    private static Play play() {
        return new Play(CHECK);
    }

    /** What a new object answers by this TEXT. */
    private static void dueBy(String text, int want) {
        Play x = play();
        x.write(0, 0, 0, text);
        x.due("houses(0,0,0," + text.length() + ")", want);
    }

    /** Behind these codes a TEXT goes on with the fitting ones (and the answer is then as told), and no others. */
    private static void goesOn(String ahead, String fitting, int then) {
        Play x = play();
        int place = ahead.length();
        x.write(0, 2, 0, ahead + "?");
        for (int code = -2; code <= 130; code++) {
            x.due("put(0," + place + "," + code + ")", 1);
            boolean fits = code >= 0 && fitting.indexOf((char) code) >= 0;
            x.due("houses(0,2,0," + (place + 1) + ")", fits ? then : -100 - place);
        }
        for (int k = 0; k < fitting.length(); k++) {
            x.due("put(0," + place + "," + (fitting.charAt(k) + 256) + ")", 1);
            x.due("houses(0,2,0," + (place + 1) + ")", -100 - place);
        }
    }

    /** The same, where a TEXT has not ended with the fitting code. */
    private static void goesOn(String ahead, String fitting) {
        goesOn(ahead, fitting, -100 - ahead.length() - 1);
    }

    @Says(promise = 1, text = "No HOUSES (no PERSONS), SHEETS have nothing.")
    private static void aNewObject() {
        Play x = play();
        x.due("fault()", 0);
        x.due("trace()", 0);
        for (int what = 0; what < 5; what++) {
            x.due("many(" + what + ")", 0);
        }
        x.refused("ofHouse(0,0)", Play.UNKNOWN);
        x.refused("ofPerson(0,0)", Play.UNKNOWN);
        for (int k = 0; k < 4; k++) {
            for (int lane = 0; lane < 3; lane++) {
                x.lost("cell(" + k + ",0," + lane + ")", 1);
            }
            x.due("lose(" + k + ")", 0);
        }
    }

    @Says(promise = 2, text = "u, a digit 0, 1 and a digit 0 .. 9 (SEAM, 01 .. 13)")
    private static void seamOfATextIs1To13() {
        for (int seam = 0; seam < 30; seam++) {
            String text = "u" + seam / 10 + seam % 10 + ";001,d0000";
            dueBy(text, seam >= 20 ? -101 : seam >= 1 && seam <= 13 ? 1 : -102);
        }
        Play x = play();
        x.take("u01;001,d0000");
        x.due("many(2)", 1);
        x.take("u13;001,d0000");
        x.due("many(2)", 13);
    }

    @Says(promise = 2, text = "of SEAM 00, 14 and on the second digit")
    private static void seamsThatAreNoneFailOnTheSecondDigit() {
        goesOn("u0", "123456789");
        goesOn("u1", "0123");
        dueBy("u00", -102);
        dueBy("u14", -102);
        dueBy("u19", -102);
        dueBy("u0", -102);
        dueBy("u1", -102);
    }

    @Says(promise = 2, text = "then 1 to 4 HOUSES, numbered from 0 on")
    private static void fourHousesAtMostOneAtLeast() {
        dueBy("u07,d0000", -103);
        dueBy("u07", -103);
        String houses = "";
        for (int count = 1; count <= 4; count++) {
            houses += ";0" + count + count;
            Play x = play();
            x.take("u07" + houses + ",d0000");
            x.due("many(0)", count);
            for (int h = 0; h < count; h++) {
                x.due("ofHouse(" + h + ",0)", h + 1);
                x.due("ofHouse(" + h + ",1)", h + 1);
            }
            x.refused("ofHouse(" + count + ",0)", Play.UNKNOWN);
        }
        dueBy("u07" + houses + ";055,d0000", -119);
    }

    @Says(promise = 2, text = "; and two digits (WOOD that COMES, 00 .. 99), a digit 1 .. 9 (BEARS)")
    private static void woodIs0To99AndBearsIs1To9() {
        goesOn("u07", ";");
        goesOn("u07;", DIGITS);
        goesOn("u07;0", DIGITS);
        goesOn("u07;9", DIGITS);
        goesOn("u07;00", "123456789");
        goesOn("u07;99", "123456789");
        Play x = play();
        x.take("u07;001;999,d0000");
        x.due("ofHouse(0,0)", 0);
        x.due("ofHouse(0,1)", 1);
        x.due("ofHouse(1,0)", 99);
        x.due("ofHouse(1,1)", 9);
    }

    @Says(promise = 2, text = "then 1 to 6 PERSONS, numbered from 0 on")
    private static void sixPersonsAtMostOneAtLeast() {
        dueBy("u07;001", -107);
        String persons = "";
        for (int count = 1; count <= 6; count++) {
            persons += ",d000" + count;
            Play x = play();
            x.take("u07;001" + persons);
            x.due("many(1)", count);
            for (int p = 0; p < count; p++) {
                x.due("ofPerson(" + p + ",4)", p + 1);
            }
            x.refused("ofPerson(" + count + ",4)", Play.UNKNOWN);
        }
        dueBy("u07;001" + persons + ",d0007", -143);
    }

    @Says(promise = 2, text = ", and a letter, a digit 0, 1 (TOWN)")
    private static void lettersAndTowns() {
        goesOn("u07;203,", "dhf");
        goesOn("u07;203,d", "01");
        goesOn("u07;203,h", "01");
        goesOn("u07;203,f", "01");
        Play x = play();
        x.take("u07;203,d0000,h1000,f0000");
        for (int p = 0; p < 3; p++) {
            x.due("ofPerson(" + p + ",0)", p);
            x.due("ofPerson(" + p + ",1)", p % 2);
        }
    }

    @Says(promise = 2, text = "a digit (its HOUSE, one that there is)")
    private static void theHouseIsOneThatThereIs() {
        String houses = "";
        for (int count = 1; count <= 4; count++) {
            houses += ";203";
            goesOn("u07" + houses + ",d1", DIGITS.substring(0, count));
        }
        Play x = play();
        x.take("u07;203;203;203;203,d0300,d0000");
        x.due("ofPerson(0,2)", 3);
        x.due("ofPerson(1,2)", 0);
    }

    @Says(promise = 2, text = "a digit 0 .. 5 (BURNS), a digit 0 .. 9 (MENDS)")
    private static void burnsIs0To5AndMendsIs0To9() {
        goesOn("u07;203,d00", "012345");
        goesOn("u07;203,d000", DIGITS, 1);
        goesOn("u07;203,d005", DIGITS, 1);
        Play x = play();
        x.take("u07;203,d0009,d0050");
        x.due("ofPerson(0,3)", 0);
        x.due("ofPerson(0,4)", 9);
        x.due("ofPerson(1,3)", 5);
        x.due("ofPerson(1,4)", 0);
    }

    @Says(promise = 2, text = "FIRST FAULT: the place (from 0 on) of the first code with which no TEXT goes on")
    private static void theFirstOfSeveralFaults() {
        goesOn("", "u");
        goesOn("u", "01");
        dueBy("x99999999", -100);
        dueBy("u9x", -101);
        dueBy("u07;2?3,x9999", -105);
        dueBy("u07;203,d0066", -111);
        dueBy("u07;203,d0012?", -113);
        dueBy("u07;203,d0012,", -114);
        dueBy("u07;203,d0012;203,d0012", -113);
    }

    @Says(promise = 2, text = "the ; of a fifth HOUSE, the , of a seventh PERSON")
    private static void whereATextIsFull() {
        goesOn("u07;203", ";,");
        goesOn("u07;203;203;203", ";,");
        goesOn("u07;203;203;203;203", ",");
        goesOn("u07;203,d0000", ",");
        goesOn(LONGEST.substring(0, 49), ",");
        goesOn(LONGEST, "");
    }

    @Says(promise = 2, text = "how many codes there are, if it just ends too soon")
    private static void endsTooSoon() {
        Play x = play();
        x.write(0, 0, 0, LONGEST);
        for (int n = 0; n <= 55; n++) {
            boolean whole = n >= 25 && n % 6 == 1;
            x.due("houses(0,0,0," + n + ")", whole ? 4 : -100 - n);
        }
    }

    @Says(promise = 2, text = "(Codes: u 117, d 100, h 104, f 102, ; 59, comma 44, digits 48 .. 57.)")
    private static void codesByTheirNumbers() {
        Play x = play();
        x.fill(0, 2, 117, 49, 48, 59, 48, 57, 49, 44, 100, 48, 48, 48, 57,
            44, 104, 49, 48, 53, 48, 44, 102, 49, 48, 52, 56);
        x.due("houses(0,2,0,25)", 1);
        x.due("many(2)", 10);
        x.due("ofHouse(0,0)", 9);
        x.due("ofHouse(0,1)", 1);
        int[][] told = {{0, 0, 0, 0, 9}, {1, 1, 0, 5, 0}, {2, 1, 0, 4, 8}};
        for (int p = 0; p < 3; p++) {
            for (int what = 0; what < 5; what++) {
                x.due("ofPerson(" + p + "," + what + ")", told[p][what]);
            }
        }
    }

    @Says(promise = 2, text = "A TEXT that is taken makes all anew: nobody is AWAY, no GIFTS, no READINGS.")
    private static void aTakenTextMakesAllAnew() {
        Play x = play();
        x.take("u07;203;104,d0012,f1011,h0100");
        x.due("away(0,true)", 1);
        x.due("away(2,true)", 1);
        x.due("seam(3)", 7);
        x.due("gift(0,0,5)", 0);
        x.due("reading(0,0,0,9)", 0);
        x.due("wood(0,0,0)", 25);
        x.due("seams()", 0);
        // The same TEXT, so that what is left over of what was would be seen.
        x.take("u07;203;104,d0012,f1011,h0100");
        for (int p = 0; p < 3; p++) {
            x.due("ofPerson(" + p + ",6)", 0);
        }
        x.due("many(2)", 7);
        x.due("many(3)", 0);
        x.due("many(4)", 0);
        x.due("wood(0,0,0)", 19);
        x.due("seams()", 16382);
        x.due("undo(1)", Play.OUTSIDE);
        x.due("back(1)", Play.OUTSIDE);
    }

    @Says(promise = 2, text = "A TEXT that is taken makes all anew")
    private static void aTextThatIsNotTakenChangesNothing() {
        Play x = play();
        x.take("u07;203;104,d0012,f1011,h0100");
        x.due("away(1,true)", 1);
        x.due("gift(0,0,5)", 0);
        x.due("reading(0,0,0,1)", 0);
        x.due("tell(0)", 1);
        x.write(1, 1, 0, "u05;501,d1050,d1059,d1050");
        x.refused("houses(1,1,0,24)", -124);
        x.refused("houses(1,1,0,12)", -112);
        x.refused("houses(1,1,0,0)", -100);
        x.refused("houses(1,1,1,24)", -100);
        x.due("put(1,24,58)", 1);
        x.refused("houses(1,1,0,25)", -124);
    }

    @Says(promise = 2, text = "HOUSES by a TEXT of n cells of a SHEET from i on, taken as a row of a LANE: how many HOUSES")
    private static void cellsFromIOnOfEachSheetAndLane() {
        String text = "u07;203,d0012";
        for (int sheet = 0; sheet < 4; sheet++) {
            for (int lane = 0; lane < 3; lane++) {
                Play x = play();
                x.write(sheet, lane, 60 - text.length(), text);
                x.due("houses(" + sheet + "," + lane + ",47,13)", 1);
                x.due("houses(" + sheet + "," + lane + ",47,12)", -112);
                x.due("houses(" + sheet + "," + lane + ",46,13)", -100);
                x.refused("houses(" + sheet + "," + lane + ",48,13)", Play.INDEX);
            }
        }
    }

    @Says(promise = 2, text = "UNKNOWN; OUTSIDE: lane; FAULTS CAST")
    private static void refusalsOfHouses() {
        Play x = play();
        x.fill(1, 1, 117, 48);
        String[] sheets = {"-1", "4", "MIN", "MAX"};
        for (String sheet : sheets) {
            x.refused("houses(" + sheet + ",1,0,2)", Play.UNKNOWN);
            x.refused("houses(" + sheet + ",3,-1,-1)", Play.UNKNOWN);
        }
        String[] lanes = {"-1", "3", "MIN", "MAX"};
        for (String lane : lanes) {
            x.refused("houses(1," + lane + ",0,2)", Play.OUTSIDE);
            x.refused("houses(1," + lane + ",-1,-1)", Play.OUTSIDE);
            x.refused("houses(0," + lane + ",0,0)", Play.OUTSIDE);
        }
    }

    @Says(promise = 2, text = "FAULTS CAST (nothing is no CAST), NULL, SIZE: n is below 0, INDEX: not all cells are there")
    private static void faultsOfHousesInTheirOrder() {
        Play x = play();
        for (int lane = 0; lane < 3; lane++) {
            x.fill(lane, lane, 117, 48);
        }
        for (int sheet = 0; sheet < 3; sheet++) {
            for (int lane = 0; lane < 3; lane++) {
                int first = sheet == lane ? 0 : Play.CAST;
                x.refused("houses(" + sheet + "," + lane + ",0,2)", first != 0 ? first : -102);
                x.refused("houses(" + sheet + "," + lane + ",0,-1)", first != 0 ? first : Play.SIZE);
                x.refused("houses(" + sheet + "," + lane + ",0,3)", first != 0 ? first : Play.INDEX);
                x.refused("houses(" + sheet + "," + lane + ",-1,-1)", first != 0 ? first : Play.SIZE);
            }
        }
        for (int lane = 0; lane < 3; lane++) {
            x.refused("houses(3," + lane + ",0,0)", Play.NULL);
            x.refused("houses(3," + lane + ",-1,-1)", Play.NULL);
            x.refused("houses(3," + lane + ",0,1)", Play.NULL);
        }
        x.refused("houses(0,0,0,MIN)", Play.SIZE);
        x.refused("houses(0,0,3,-1)", Play.SIZE);
        x.refused("houses(0,0,MIN,MIN)", Play.SIZE);
    }

    @Says(promise = 2, text = "INDEX: not all cells are there")
    private static void cellsThatAreNotThere() {
        Play x = play();
        x.fill(0, 2, 117, 48, 55, 59, 50);
        x.refused("houses(0,2,0,5)", -105);
        x.refused("houses(0,2,0,6)", Play.INDEX);
        x.refused("houses(0,2,1,5)", Play.INDEX);
        x.refused("houses(0,2,4,2)", Play.INDEX);
        x.refused("houses(0,2,4,1)", -100);
        x.refused("houses(0,2,5,1)", Play.INDEX);
        x.refused("houses(0,2,-1,1)", Play.INDEX);
        x.refused("houses(0,2,-1,6)", Play.INDEX);
        x.refused("houses(0,2,MIN,1)", Play.INDEX);
        x.refused("houses(0,2,MAX,1)", Play.INDEX);
        x.refused("houses(0,2,1,MAX)", Play.INDEX);
        x.refused("houses(0,2,MAX,MAX)", Play.INDEX);
        x.refused("houses(0,2,MIN,MAX)", Play.INDEX);
    }

    @Says(promise = 2, text = "(of cells from i on also where i is not 0 .. how many there are, if none of them is taken, too)")
    private static void noCellsOfHouses() {
        Play x = play();
        x.fill(0, 1, 117, 48, 55);
        x.refused("houses(0,1,0,0)", -100);
        x.refused("houses(0,1,3,0)", -100);
        x.refused("houses(0,1,4,0)", Play.INDEX);
        x.refused("houses(0,1,-1,0)", Play.INDEX);
        x.refused("houses(0,1,MAX,0)", Play.INDEX);
        x.refused("houses(0,1,MIN,0)", Play.INDEX);
        x.due("sheet(1,1,0)", 1);
        x.refused("houses(1,1,0,0)", -100);
        x.refused("houses(1,1,1,0)", Play.INDEX);
        x.refused("houses(1,1,0,1)", Play.INDEX);
        x.refused("houses(1,1,-1,0)", Play.INDEX);
    }
}
