/** Promises 29 to 38: the boundaries that the document names for SHEETS, FAULTS, TELLING, TRACE. */
public final class EdgeSheetsTest {
    private static final Check CHECK = new Check();
    private static final String[] NO_SHEETS = {"-1", "4", "MIN", "MAX"};
    private static final String[] NO_LANES = {"-1", "3", "MIN", "MAX"};
    private static final String[] NO_PERSONS = {"-1", "3", "6", "MIN", "MAX"};

    public static void main(String[] args) throws Exception {
        new Edges(CHECK, args).run(EdgeSheetsTest.class);
    }

    private static Play play(String text) {
        return new Play(CHECK, text);
    }

    private static Play play() {
        return new Play(CHECK);
    }

    private static void dueCells(Play x, int sheet, int lane, int... cells) {
        for (int i = 0; i < cells.length; i++) {
            x.due("cell(" + sheet + "," + i + "," + lane + ")", cells[i]);
        }
        x.lost("cell(" + sheet + "," + cells.length + "," + lane + ")", 3);
    }

    // ---- rows of sheets

    @Says(promise = 29, text = "SHEETS 0 .. 3 have nothing (at first), or a row of 0 .. 60 numbers (0 at first) of a LANE: 0 bytes, 1 shorts, 2 ints")
    private static void rowsOf0To60Numbers() {
        for (int sheet = 0; sheet < 4; sheet++) {
            for (int lane = 0; lane < 3; lane++) {
                Play x = play();
                String of = sheet + "," + lane;
                x.lost("cell(" + sheet + ",0," + lane + ")", 1);
                x.due("sheet(" + of + ",0)", 1);
                dueCells(x, sheet, lane);
                x.due("sheet(" + of + ",1)", 1);
                dueCells(x, sheet, lane, 0);
                x.due("sheet(" + of + ",60)", 1);
                for (int i = 0; i < 60; i++) {
                    x.due("cell(" + sheet + "," + i + "," + lane + ")", 0);
                }
                x.lost("cell(" + sheet + ",60," + lane + ")", 3);
                x.refused("sheet(" + of + ",61)", Play.OUTSIDE);
            }
        }
    }

    @Says(promise = 29, text = "A SHEET gets a new row: 1.")
    private static void aNewRowIs0Again() {
        Play x = play();
        x.fill(2, 2, 1, -2, 70000);
        x.due("sheet(2,2,3)", 1);
        dueCells(x, 2, 2, 0, 0, 0);
        x.fill(2, 2, 1, -2, 70000);
        x.due("sheet(2,0,2)", 1);
        dueCells(x, 2, 0, 0, 0);
        x.lost("cell(2,0,2)", 2);
        x.due("sheet(2,1,60)", 1);
        x.due("cell(2,2,1)", 0);
        x.due("put(2,59,-1)", 1);
        x.due("sheet(2,1,60)", 1);
        x.due("cell(2,59,1)", 0);
        x.due("lose(2)", 1);
        x.due("sheet(2,1,60)", 1);
        x.due("cell(2,59,1)", 0);
    }

    @Says(promise = 29, text = "UNKNOWN; OUTSIDE: lane, n above 60; SIZE.")
    private static void refusalsOfSheetInTheirOrder() {
        Play x = play();
        x.fill(1, 1, 5, 6);
        for (String sheet : NO_SHEETS) {
            x.refused("sheet(" + sheet + ",0,1)", Play.UNKNOWN);
            x.refused("sheet(" + sheet + ",3,61)", Play.UNKNOWN);
            x.refused("sheet(" + sheet + ",0,-1)", Play.UNKNOWN);
        }
        for (String lane : NO_LANES) {
            x.refused("sheet(1," + lane + ",1)", Play.OUTSIDE);
            x.refused("sheet(1," + lane + ",-1)", Play.OUTSIDE);
            x.refused("sheet(0," + lane + ",61)", Play.OUTSIDE);
        }
        for (int lane = 0; lane < 3; lane++) {
            x.refused("sheet(1," + lane + ",61)", Play.OUTSIDE);
            x.refused("sheet(1," + lane + ",MAX)", Play.OUTSIDE);
            x.refused("sheet(1," + lane + ",-1)", Play.SIZE);
            x.refused("sheet(1," + lane + ",MIN)", Play.SIZE);
            x.refused("sheet(0," + lane + ",-1)", Play.SIZE);
        }
    }

    @Says(promise = 30, text = "A SHEET has nothing: 1; 0: it had nothing. UNKNOWN.")
    private static void losingARowAndNothing() {
        for (int sheet = 0; sheet < 4; sheet++) {
            Play x = play();
            x.due("lose(" + sheet + ")", 0);
            x.due("sheet(" + sheet + ",0,0)", 1);
            x.due("lose(" + sheet + ")", 1);
            x.due("lose(" + sheet + ")", 0);
            x.due("sheet(" + sheet + ",2,60)", 1);
            x.due("lose(" + sheet + ")", 1);
            x.refused("put(" + sheet + ",0,0)", Play.NULL);
            x.due("sheet(" + (sheet + 1) % 4 + ",0,1)", 1);
            x.due("lose(" + sheet + ")", 0);
            x.due("cell(" + (sheet + 1) % 4 + ",0,0)", 0);
        }
        Play x = play();
        x.fill(3, 0, 1, 2);
        for (String sheet : NO_SHEETS) {
            x.refused("lose(" + sheet + ")", Play.UNKNOWN);
        }
    }

    @Says(promise = 31, text = "Cell i of a SHEET becomes v: 1. UNKNOWN; NULL; INDEX.")
    private static void refusalsOfPutInTheirOrder() {
        Play x = play();
        x.due("sheet(1,2,60)", 1);
        x.fill(2, 0, 1, 2);
        x.due("sheet(3,1,0)", 1);
        x.due("put(1,0,MAX)", 1);
        x.due("put(1,59,MIN)", 1);
        x.due("cell(1,0,2)", Integer.MAX_VALUE);
        x.due("cell(1,59,2)", Integer.MIN_VALUE);
        x.due("cell(1,1,2)", 0);
        for (String sheet : NO_SHEETS) {
            x.refused("put(" + sheet + ",0,1)", Play.UNKNOWN);
            x.refused("put(" + sheet + ",-1,1)", Play.UNKNOWN);
        }
        String[] places = {"-1", "0", "60", "MIN", "MAX"};
        for (String i : places) {
            x.refused("put(0," + i + ",1)", Play.NULL);
            x.refused("put(3," + i + ",1)", Play.INDEX);
        }
        String[] beyond = {"-1", "60", "MIN", "MAX"};
        for (String i : beyond) {
            x.refused("put(1," + i + ",1)", Play.INDEX);
        }
        x.refused("put(2,2,1)", Play.INDEX);
        x.due("put(2,1,9)", 1);
        x.due("fault()", 0);
        dueCells(x, 2, 0, 1, 9);
    }

    @Says(promise = 31, text = "what comes to a cell of it is cut to its LANE.")
    private static void cutToTheLane() {
        Play x = play();
        for (int lane = 0; lane < 3; lane++) {
            x.due("sheet(" + lane + "," + lane + ",1)", 1);
        }
        int[][] cut = {{127, 127, 127}, {128, -128, 128}, {-128, -128, -128}, {-129, 127, -129},
            {255, -1, 255}, {256, 0, 256}, {257, 1, 257}, {-256, 0, -256}, {32767, -1, 32767},
            {32768, 0, -32768}, {-32768, 0, -32768}, {-32769, -1, 32767}, {65535, -1, -1}, {65536, 0, 0},
            {65537, 1, 1}, {Integer.MAX_VALUE, -1, -1}, {Integer.MIN_VALUE, 0, 0}, {0, 0, 0}, {-1, -1, -1}};
        for (int[] row : cut) {
            for (int lane = 0; lane < 3; lane++) {
                x.due("put(" + lane + ",0," + row[0] + ")", 1);
            }
            x.due("cell(0,0,0)", row[1]);
            x.due("cell(1,0,1)", row[2]);
            x.due("cell(2,0,2)", row[0]);
        }
    }

    @Says(promise = 32, text = "LOST: UNKNOWN, OUTSIDE: lane; FAULTS CAST (nothing is no CAST), NULL, INDEX.")
    private static void refusalsOfCellInTheirOrder() {
        Play x = play();
        for (int lane = 0; lane < 3; lane++) {
            x.fill(lane, lane, 7, 8);
        }
        for (String sheet : NO_SHEETS) {
            x.lost("cell(" + sheet + ",0,0)", 0);
            x.lost("cell(" + sheet + ",-1,3)", 0);
        }
        for (String lane : NO_LANES) {
            x.lost("cell(0,0," + lane + ")", 0);
            x.lost("cell(0,-1," + lane + ")", 0);
            x.lost("cell(3,0," + lane + ")", 0);
        }
        String[] beyond = {"-1", "2", "60", "MIN", "MAX"};
        for (int sheet = 0; sheet < 3; sheet++) {
            for (int lane = 0; lane < 3; lane++) {
                for (String i : beyond) {
                    x.lost("cell(" + sheet + "," + i + "," + lane + ")", sheet == lane ? 3 : 2);
                }
                if (sheet != lane) {
                    x.lost("cell(" + sheet + ",0," + lane + ")", 2);
                }
            }
            x.lost("cell(3,0," + sheet + ")", 1);
            x.lost("cell(3,-1," + sheet + ")", 1);
            x.due("cell(" + sheet + ",0," + sheet + ")", 7);
            x.due("cell(" + sheet + ",1," + sheet + ")", 8);
            x.due("fault()", 0);
        }
        x.due("sheet(3,0,0)", 1);
        x.lost("cell(3,0,0)", 3);
        x.lost("cell(3,0,1)", 2);
    }

    @Says(promise = 33, text = "n cells of a SHEET from i on go to another one (perhaps the same) from j on, as they were: n.")
    private static void copiesOfNoneToAll() {
        Play x = play();
        for (int lane = 0; lane < 3; lane++) {
            x.fill(0, lane, -1, 2, 3, 4, 5);
            x.due("sheet(3," + lane + ",5)", 1);
            x.due("copy(0,0,3,0,5)", 5);
            dueCells(x, 3, lane, -1, 2, 3, 4, 5);
            dueCells(x, 0, lane, -1, 2, 3, 4, 5);
            x.due("copy(0,5,3,5,0)", 0);
            x.due("copy(0,0,3,0,0)", 0);
            x.due("copy(0,4,3,0,1)", 1);
            dueCells(x, 3, lane, 5, 2, 3, 4, 5);
            x.due("copy(3,0,3,1,4)", 4);
            dueCells(x, 3, lane, 5, 5, 2, 3, 4);
            x.due("copy(3,2,3,0,3)", 3);
            dueCells(x, 3, lane, 2, 3, 4, 3, 4);
            x.due("copy(3,0,3,0,5)", 5);
            dueCells(x, 3, lane, 2, 3, 4, 3, 4);
        }
        x.due("sheet(1,1,0)", 1);
        x.due("sheet(2,1,0)", 1);
        x.due("copy(1,0,2,0,0)", 0);
        x.due("copy(1,0,1,0,0)", 0);
        x.due("fault()", 0);
    }

    @Says(promise = 33, text = "UNKNOWN; FAULTS NULL (the first, the other), CAST (unlike LANES)")
    private static void refusalsOfCopyInTheirOrder() {
        Play x = play();
        x.fill(0, 1, 1, 2, 3);
        x.fill(1, 2, 4, 5, 6);
        x.fill(3, 0, 7, 8, 9);
        for (String sheet : NO_SHEETS) {
            x.refused("copy(" + sheet + ",0,0,0,1)", Play.UNKNOWN);
            x.refused("copy(0,0," + sheet + ",0,1)", Play.UNKNOWN);
            x.refused("copy(2,-1," + sheet + ",-1,-1)", Play.UNKNOWN);
            x.refused("copy(" + sheet + ",-1,2,-1,-1)", Play.UNKNOWN);
            x.refused("copy(" + sheet + ",0," + sheet + ",0,0)", Play.UNKNOWN);
        }
        x.refused("copy(2,0,0,0,1)", Play.NULL);
        x.refused("copy(0,0,2,0,1)", Play.NULL);
        x.refused("copy(2,0,2,0,0)", Play.NULL);
        x.refused("copy(2,-1,0,-1,-1)", Play.NULL);
        x.refused("copy(0,-1,2,-1,-1)", Play.NULL);
        int[] rows = {0, 1, 3};
        for (int from : rows) {
            for (int to : rows) {
                if (from != to) {
                    x.refused("copy(" + from + ",0," + to + ",0,1)", Play.CAST);
                    x.refused("copy(" + from + ",0," + to + ",0,0)", Play.CAST);
                    x.refused("copy(" + from + ",-1," + to + ",4,-1)", Play.CAST);
                }
            }
        }
    }

    @Says(promise = 33, text = "INDEX: i, j, n below 0 or beyond.")
    private static void copiesOfCellsThatAreNotThere() {
        Play x = play();
        x.fill(0, 1, 1, 2, 3, 4, 5);
        x.fill(1, 1, 6, 7, 8);
        String[] wrong = {"0,-1,1,0,1", "0,0,1,-1,1", "0,0,1,0,-1", "0,MIN,1,0,1", "0,0,1,MIN,1", "0,0,1,0,MIN",
            "0,5,1,0,1", "0,0,1,3,1", "0,0,1,0,4", "1,0,0,0,4", "0,3,1,0,3", "0,0,1,1,3", "1,1,0,0,3", "1,0,0,3,3",
            "0,MAX,1,0,1", "0,0,1,MAX,1", "0,0,1,0,MAX", "0,1,1,1,MAX", "0,MAX,1,MAX,MAX", "0,MIN,1,MIN,MIN",
            "0,-1,0,-1,1", "0,1,0,0,5", "0,0,0,1,5"};
        for (String args : wrong) {
            x.refused("copy(" + args + ")", Play.INDEX);
        }
    }

    @Says(promise = 33, text = "(of cells from i on also where i is not 0 .. how many there are, if none of them is taken, too)")
    private static void copiesOfNoCells() {
        Play x = play();
        x.fill(0, 1, 1, 2);
        x.due("sheet(1,1,0)", 1);
        x.due("copy(0,2,1,0,0)", 0);
        x.due("copy(1,0,0,2,0)", 0);
        x.refused("copy(0,3,1,0,0)", Play.INDEX);
        x.refused("copy(0,-1,1,0,0)", Play.INDEX);
        x.refused("copy(0,0,1,1,0)", Play.INDEX);
        x.refused("copy(0,0,1,-1,0)", Play.INDEX);
        x.refused("copy(1,1,0,0,0)", Play.INDEX);
        x.refused("copy(0,MAX,1,0,0)", Play.INDEX);
        x.refused("copy(0,MIN,1,0,0)", Play.INDEX);
        x.refused("copy(0,0,0,3,0)", Play.INDEX);
    }

    // ---- telling

    private static int traceOf(int before, int... bodies) {
        int trace = before;
        for (int body : bodies) {
            trace = 31 * trace + body;
        }
        return trace;
    }

    @Says(promise = 34, text = "DWELLER (1): BURNS. HEARTY (2): what DWELLER's gives, and 100. "
        + "FROWARD (3): what HEARTY's gives, and what DWELLER's gives (HEARTY's left out).")
    private static void tellingOfEachKindByTheLeastAndTheMost() {
        for (int burns = 0; burns <= 5; burns += 5) {
            Play x = play("u07;203,d00" + burns + "0,h00" + burns + "0,f00" + burns + "0");
            x.due("tell(0)", burns);
            int trace = traceOf(0, 1);
            x.due("trace()", trace);
            x.due("tell(1)", burns + 100);
            trace = traceOf(trace, 2, 1);
            x.due("trace()", trace);
            x.due("tell(2)", 2 * burns + 100);
            trace = traceOf(trace, 3, 2, 1, 1);
            x.due("trace()", trace);
        }
    }

    private static void refusedPersons(String call) {
        Play x = play("u07;203,d0000,h0000,f0000");
        x.due("tell(1)", 100);
        for (String p : NO_PERSONS) {
            x.refused(call.replace("?", p), Play.UNKNOWN);
        }
        play().refused(call.replace("?", "0"), Play.UNKNOWN);
        play("u07;203,d0000,d0000,d0000,d0000,d0000,d0000").refused(call.replace("?", "6"), Play.UNKNOWN);
    }

    @Says(promise = 34, text = "TELLING of a PERSON. UNKNOWN.")
    private static void refusalsOfTell() {
        refusedPersons("tell(?)");
    }

    @Says(promise = 35, text = "KNOCKED for by a lent body (4): its number; FROWARD ones have their own (5): 50.")
    private static void knocksForTheFirstAndTheLast() {
        Play x = play("u07;203,d0000,h0000,f0000,h0000,f0000,d0000");
        int[] due = {0, 1, 50, 3, 50, 5};
        int trace = 0;
        for (int p = 0; p < 6; p++) {
            x.due("knock(" + p + ")", due[p]);
            trace = traceOf(trace, due[p] == 50 ? 5 : 4);
            x.due("trace()", trace);
        }
    }

    @Says(promise = 35, text = "How it is KNOCKED for. UNKNOWN.")
    private static void refusalsOfKnock() {
        refusedPersons("knock(?)");
    }

    @Says(promise = 36, text = "CAST: it is none (each is a DWELLER, too; a FROWARD one is a HEARTY).")
    private static void takenAsEachKind() {
        Play x = play("u07;203,d0000,h0000,f0000");
        for (int p = 0; p < 3; p++) {
            for (int kind = 0; kind < 3; kind++) {
                String call = "as(" + p + "," + kind + ")";
                if (kind <= p) {
                    x.due(call, 1);
                    x.due("fault()", 0);
                } else {
                    x.refused(call, Play.CAST);
                }
            }
        }
        x.due("trace()", 0);
        x.due("ofPerson(2,0)", 2);
    }

    @Says(promise = 36, text = "A PERSON, taken as one of a kind: 1. UNKNOWN; OUTSIDE; CAST")
    private static void refusalsOfAsInTheirOrder() {
        refusedPersons("as(?,0)");
        refusedPersons("as(?,3)");
        Play x = play("u07;203,d0000,h0000,f0000");
        String[] outside = {"-1", "3", "MIN", "MAX"};
        for (String kind : outside) {
            for (int p = 0; p < 3; p++) {
                x.refused("as(" + p + "," + kind + ")", Play.OUTSIDE);
            }
        }
    }

    @Says(promise = 37, text = "TRACE (an int that wraps, 0 at first, becomes 31 times it and the number)")
    private static void traceWraps() {
        Play x = play("u07;203,f0010");
        x.due("trace()", 0);
        long whole = 0;
        boolean wrapped = false;
        for (int k = 0; k < 8; k++) {
            x.due("knock(0)", 50);
            whole = 31 * whole + 5;
            wrapped |= whole != (int) whole;
            x.due("trace()", (int) whole);
        }
        CHECK.due("it wrapped", wrapped ? 1 : 0, 1);
        x.due("tell(0)", 102);
        x.due("trace()", traceOf((int) whole, 3, 2, 1, 1));
        x.take("u07;203,d0010");
        x.due("trace()", traceOf((int) whole, 3, 2, 1, 1));
        play().due("trace()", 0);
    }

    // ---- faults

    @Says(promise = 38, text = "1 NULL (there is nothing), 2 CAST (it is of another lane, kind), 3 INDEX")
    private static void faultsByTheirNumbers() {
        Play x = play();
        x.due("put(0,0,0)", -11);
        x.due("fault()", 1);
        x.due("sheet(0,1,1)", 1);
        x.due("fault()", 0);
        x.due("houses(0,0,0,0)", -12);
        x.due("fault()", 2);
        x.due("put(0,1,0)", -13);
        x.due("fault()", 3);
        x.due("sheet(0,1,-1)", -14);
        x.due("fault()", 4);
        x.due("cell(0,1,1)", Long.MIN_VALUE);
        x.due("fault()", 3);
    }

    @Says(promise = 38, text = "Of a call the first that is come to, in the order told; it answers -10 less it")
    private static void theFirstOfSeveralFaults() {
        Play x = play();
        x.due("sheet(0,1,1)", 1);
        x.refused("houses(0,0,2,-1)", Play.CAST);
        x.refused("houses(0,1,2,-1)", Play.SIZE);
        x.refused("row(0,2,2,-1)", Play.CAST);
        x.refused("row(0,1,2,-1)", Play.SIZE);
        x.refused("houses(1,0,2,-1)", Play.NULL);
        x.refused("put(1,-1,0)", Play.NULL);
        x.refused("copy(0,9,1,9,9)", Play.NULL);
        x.due("sheet(1,0,1)", 1);
        x.refused("copy(0,9,1,9,9)", Play.CAST);
        x.lost("cell(0,9,0)", 2);
        x.lost("cell(2,9,0)", 1);
    }

    /** Calls that come to a FAULT, are refused, and come to none, of each that names FAULTS. */
    @Says(promise = 38, text = "The FAULT of the latest call that names one: 0: it came to none, or was refused (0 ahead of any).")
    private static void theFaultOfTheLatestCall() {
        play().due("fault()", 0);
        Play x = play("u07;203,d0000");
        x.due("fault()", 0);
        x.fill(1, 0, 0, 0);
        x.due("as(0,1)", Play.CAST);
        String[] none = {"houses(0,0,0,13)", "houses(1,0,0,2)", "row(1,0,0,2)", "row(1,0,0,0)", "sheet(2,0,0)",
            "put(1,0,0)", "cell(1,0,0)", "copy(1,0,1,0,2)", "as(0,0)"};
        String[] refused = {"houses(4,0,0,0)", "houses(0,3,0,0)", "row(4,0,0,0)", "row(0,3,0,0)", "row(0,0,0,13)",
            "sheet(4,0,0)", "sheet(0,3,0)", "sheet(0,0,61)", "put(4,0,0)", "cell(4,0,0)", "cell(0,0,3)",
            "copy(4,0,0,0,0)", "copy(0,0,4,0,0)", "as(1,0)", "as(0,3)"};
        String[][] both = {none, refused};
        for (String[] calls : both) {
            for (String call : calls) {
                x.due("as(0,1)", Play.CAST);
                x.due("fault()", 2);
                x.answer(call);
                CHECK.due("fault() behind " + call, x.answer("fault()"), 0);
            }
        }
    }

    @Says(promise = 38, text = "The FAULT of the latest call that names one")
    private static void callsThatNameNoFaultLeaveIt() {
        Play x = play("u07;203,d0000,d1000");
        x.fill(1, 0, 0, 0);
        x.due("as(0,2)", Play.CAST);
        String[] calls = {"ofHouse(0,0)", "ofHouse(9,0)", "ofPerson(0,0)", "ofPerson(9,0)", "seam(3)", "seam(0)",
            "away(0,false)", "away(9,true)", "gift(0,0,1)", "gift(0,0,0)", "undo(1)", "undo(9)", "wood(0,0,0)",
            "wood(0,0,14)", "wear(0,0,0)", "wear(0,0,14)", "cold(0,0)", "cold(0,14)", "chills(0,0)", "chills(0,10)",
            "all()", "breaks(0)", "breaks(9)", "best(0)", "best(2)", "blame(0)", "blame(9)", "warm(0)", "warm(9)",
            "logs(0)", "logs(9)", "pays(0,0,0)", "pays(9,0,0)", "together(0,1,0)", "together(0,0,0)", "third(0)",
            "third(9)", "reading(0,0,0,0)", "reading(0,0,0,100)", "back(1)", "back(9)", "gone()", "seams()",
            "kinds(0)", "kinds(9)", "odds(0,0)", "odds(10,0)", "lose(1)", "lose(1)", "lose(9)", "tell(0)", "tell(9)",
            "knock(0)", "knock(9)", "trace()", "fault()", "many(0)", "many(9)"};
        for (String call : calls) {
            x.answer(call);
            CHECK.due("fault() behind " + call, x.answer("fault()"), 2);
        }
    }

    @Says(promise = 38, text = "(LOST, where a long is answered, as for refusals) and changes nothing; fault() tells it.")
    private static void lostByARefusalAndByAFault() {
        Play x = play("u07;203,d0000");
        x.due("cell(0,13,0)", Long.MIN_VALUE);
        x.due("fault()", 3);
        x.due("cell(0,0,3)", Long.MIN_VALUE);
        x.due("fault()", 0);
        x.due("cell(0,0,1)", Long.MIN_VALUE);
        x.due("fault()", 2);
        x.due("cell(4,0,1)", Long.MIN_VALUE);
        x.due("fault()", 0);
        x.due("cell(1,0,1)", Long.MIN_VALUE);
        x.due("fault()", 1);
        x.due("pays(9,0,0)", Long.MIN_VALUE);
        x.due("odds(10,0)", Long.MIN_VALUE);
        x.due("fault()", 1);
    }
}
