/** Promises 29 to 38: SHEETS, FAULTS, TELLING, KNOCKED, taken as a kind, TRACE. */
public final class SheetsTest {
    private static final Check CHECK = new Check();

    public static void main(String[] args) {
        sheet();
        lose();
        put();
        cell();
        copy();
        copyFaults();
        tellAndKnock();
        traceWraps();
        as();
        faultIsOfTheLatest();
        CHECK.end();
    }

    private static void due(String call, long got, long want) {
        CHECK.due(call, got, want);
    }

    private static void sheet() {
        TwoTowns x = new TwoTowns();
        due("sheet -1", x.sheet(-1, 9, -1), TwoTowns.UNKNOWN);
        due("sheet 4", x.sheet(4, 0, 0), TwoTowns.UNKNOWN);
        due("lane -1", x.sheet(0, -1, -1), TwoTowns.OUTSIDE);
        due("lane 3", x.sheet(0, 3, 0), TwoTowns.OUTSIDE);
        due("n 61", x.sheet(0, 0, 61), TwoTowns.OUTSIDE);
        due("no fault", x.fault(), 0);
        due("n -1", x.sheet(0, 0, -1), -14);
        due("SIZE", x.fault(), 4);
        due("still nothing", x.lose(0), 0);
        due("n 0", x.sheet(0, 0, 0), 1);
        due("fault is over", x.fault(), 0);
        due("no cell", x.put(0, 0, 1), -13);
        due("n 60", x.sheet(3, 2, 60), 1);
        due("last cell", x.put(3, 59, 7), 1);
        due("last cell is", x.cell(3, 59, 2), 7);
        due("anew", x.sheet(3, 1, 60), 1);
        due("0 at first", x.cell(3, 59, 1), 0);
        x.put(3, 5, 9);
        due("refused", x.sheet(3, 0, -5), -14);
        due("kept", x.cell(3, 5, 1), 9);
    }

    private static void lose() {
        TwoTowns x = new TwoTowns();
        due("lose -1", x.lose(-1), TwoTowns.UNKNOWN);
        due("lose 4", x.lose(4), TwoTowns.UNKNOWN);
        due("had nothing", x.lose(2), 0);
        x.sheet(2, 0, 0);
        due("had a row", x.lose(2), 1);
        due("has nothing", x.put(2, 0, 0), -11);
        due("lose again", x.lose(2), 0);
        due("names no fault", x.fault(), 1);
    }

    private static void put() {
        TwoTowns x = new TwoTowns();
        due("put -1", x.put(-1, 0, 0), TwoTowns.UNKNOWN);
        due("put 4", x.put(4, 0, 0), TwoTowns.UNKNOWN);
        due("put nothing", x.put(0, -1, 0), -11);
        due("NULL", x.fault(), 1);
        x.sheet(0, 0, 3);
        x.sheet(1, 1, 3);
        x.sheet(2, 2, 3);
        due("put i -1", x.put(0, -1, 0), -13);
        due("INDEX", x.fault(), 3);
        due("put i 3", x.put(0, 3, 0), -13);
        long[][] cut = {{200, -56, 200, 200}, {40000, 64, -25536, 40000}, {-129, 127, -129, -129},
            {Integer.MIN_VALUE, 0, 0, Integer.MIN_VALUE}, {Integer.MAX_VALUE, -1, -1, Integer.MAX_VALUE}};
        for (long[] row : cut) {
            for (int lane = 0; lane < 3; lane++) {
                due("put", x.put(lane, 2, (int) row[0]), 1);
                due("cut to " + lane, x.cell(lane, 2, lane), row[lane + 1]);
            }
        }
        due("the others are 0", x.cell(0, 1, 0), 0);
    }

    private static void cell() {
        TwoTowns x = new TwoTowns();
        due("cell nothing", x.cell(0, -1, 2), TwoTowns.LOST);
        due("NULL", x.fault(), 1);
        due("cell -1", x.cell(-1, 0, 0), TwoTowns.LOST);
        due("refused", x.fault(), 0);
        x.sheet(0, 1, 2);
        x.put(0, 1, -5);
        due("as bytes", x.cell(0, 9, 0), TwoTowns.LOST);
        due("CAST", x.fault(), 2);
        due("lane 3", x.cell(0, 0, 3), TwoTowns.LOST);
        due("refused", x.fault(), 0);
        due("i 2", x.cell(0, 2, 1), TwoTowns.LOST);
        due("INDEX", x.fault(), 3);
        due("i -1", x.cell(0, -1, 1), TwoTowns.LOST);
        due("i 1", x.cell(0, 1, 1), -5);
        due("fault is over", x.fault(), 0);
        due("cell 4", x.cell(4, 0, 0), TwoTowns.LOST);
    }

    private static void dueCells(TwoTowns x, int k, int lane, int... cells) {
        for (int i = 0; i < cells.length; i++) {
            due("cell " + k + " " + i, x.cell(k, i, lane), cells[i]);
        }
    }

    private static TwoTowns withRow() {
        TwoTowns x = new TwoTowns();
        x.sheet(0, 1, 5);
        for (int i = 0; i < 5; i++) {
            x.put(0, i, i + 1);
        }
        return x;
    }

    private static void copy() {
        TwoTowns x = withRow();
        due("up, as they were", x.copy(0, 0, 0, 1, 4), 4);
        dueCells(x, 0, 1, 1, 1, 2, 3, 4);
        x = withRow();
        due("down, as they were", x.copy(0, 1, 0, 0, 4), 4);
        dueCells(x, 0, 1, 2, 3, 4, 5, 5);
        x.sheet(3, 1, 2);
        due("to another", x.copy(0, 2, 3, 0, 2), 2);
        dueCells(x, 3, 1, 4, 5);
        x.copy(0, 6, 3, 2, 0);
        due("none, at the ends", x.copy(0, 5, 3, 2, 0), 0);
        due("fault is over", x.fault(), 0);
        x.put(3, 0, 9);
        dueCells(x, 0, 1, 2, 3, 4, 5, 5);
    }

    private static void copyFaults() {
        TwoTowns x = withRow();
        due("k unknown", x.copy(4, 0, 0, 0, 1), TwoTowns.UNKNOWN);
        due("other unknown", x.copy(1, 0, -1, 0, 1), TwoTowns.UNKNOWN);
        due("refused", x.fault(), 0);
        due("first nothing", x.copy(1, -1, 0, 0, 1), -11);
        due("NULL", x.fault(), 1);
        due("other nothing", x.copy(0, -1, 1, 0, 1), -11);
        x.sheet(1, 0, 5);
        due("unlike", x.copy(0, -1, 1, 0, 1), -12);
        due("CAST", x.fault(), 2);
        x.sheet(1, 1, 3);
        int[][] wrong = {{-1, 0, 1}, {0, -1, 1}, {0, 0, -1}, {0, 0, 4}, {3, 0, 3}, {6, 0, 0}, {0, 4, 0},
            {-1, 0, 0}, {0, -1, 0}, {1, 0, Integer.MAX_VALUE}, {Integer.MAX_VALUE, 0, 1},
            {0, Integer.MIN_VALUE, Integer.MIN_VALUE}};
        for (int[] w : wrong) {
            due("copy " + w[0] + " " + w[1] + " " + w[2], x.copy(0, w[0], 1, w[1], w[2]), -13);
            due("INDEX", x.fault(), 3);
        }
        dueCells(x, 1, 1, 0, 0, 0);
    }

    private static void tellAndKnock() {
        TwoTowns x = new TwoTowns();
        due("tell nobody", x.tell(0), TwoTowns.UNKNOWN);
        due("knock nobody", x.knock(0), TwoTowns.UNKNOWN);
        x = CHECK.told("u07;203,f0030,h0040,d0050");
        due("a FROWARD one", x.tell(0), 106);
        int trace = ((3 * 31 + 2) * 31 + 1) * 31 + 1;
        due("3 2 1 1", x.trace(), trace);
        due("tell 3", x.tell(3), TwoTowns.UNKNOWN);
        due("tell -1", x.tell(-1), TwoTowns.UNKNOWN);
        due("knock 3", x.knock(3), TwoTowns.UNKNOWN);
        due("refused: as it was", x.trace(), trace);
        due("knock FROWARD", x.knock(0), 50);
        trace = trace * 31 + 5;
        due("5", x.trace(), trace);
        due("knock HEARTY", x.knock(1), 1);
        trace = trace * 31 + 4;
        due("4", x.trace(), trace);
        due("a HEARTY", x.tell(1), 104);
        trace = (trace * 31 + 2) * 31 + 1;
        due("2 1", x.trace(), trace);
        due("a DWELLER", x.tell(2), 5);
        trace = trace * 31 + 1;
        due("1", x.trace(), trace);
        due("knock DWELLER", x.knock(2), 2);
    }

    private static void traceWraps() {
        TwoTowns x = CHECK.told("u07;203,h0010");
        int trace = 0;
        for (int k = 0; k < 40; k++) {
            x.tell(0);
            trace = (trace * 31 + 2) * 31 + 1;
            due("trace " + k, x.trace(), trace);
        }
    }

    private static void as() {
        due("as nobody", new TwoTowns().as(0, 9), TwoTowns.UNKNOWN);
        TwoTowns x = CHECK.told("u07;203,d0010,h0010,f0010");
        for (int p = 0; p < 3; p++) {
            for (int kind = 0; kind < 3; kind++) {
                due("as " + p + " " + kind, x.as(p, kind), kind <= p ? 1 : -12);
                due("fault", x.fault(), kind <= p ? 0 : 2);
            }
            x.as(p, 2);
            due("kind -1", x.as(p, -1), TwoTowns.OUTSIDE);
            due("refused", x.fault(), 0);
            due("kind 3", x.as(p, 3), TwoTowns.OUTSIDE);
        }
        due("as -1", x.as(-1, 0), TwoTowns.UNKNOWN);
        due("as 3", x.as(3, 0), TwoTowns.UNKNOWN);
        due("leaves no trace", x.trace(), 0);
    }

    private static void faultIsOfTheLatest() {
        TwoTowns x = CHECK.told("u07;203,d0010");
        x.as(0, 1);
        x.ofHouse(9, 9);
        x.lose(9);
        x.pays(9, 9, 9);
        x.all();
        x.trace();
        due("calls that name none leave it", x.fault(), 2);
        due("asked again", x.fault(), 2);
        x.put(0, 0, 1);
        due("one that names some", x.fault(), 0);
        x.as(0, 2);
        x.as(9, 0);
        due("a refused one", x.fault(), 0);
    }
}
