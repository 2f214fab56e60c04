/** Promises 15 to 19: BEST, BLAME, WARM, LOGS, PAYS. */
public final class ChillsTest {
    private static final Check CHECK = new Check();

    public static void main(String[] args) {
        best();
        blame();
        warm();
        logs();
        pays();
        CHECK.end();
    }

    private static void due(String call, long got, long want) {
        CHECK.due(call, got, want);
    }

    private static void dueBest(TwoTowns x, int seam, int all) {
        due("best seam", x.best(0), seam);
        due("best all", x.best(1), all);
    }

    private static void best() {
        TwoTowns x = new TwoTowns();
        due("best 2 ahead of STATE", x.best(2), TwoTowns.OUTSIDE);
        due("best STATE", x.best(0), TwoTowns.STATE);
        x = CHECK.told("u07;009,d0010");
        due("best -1", x.best(-1), TwoTowns.OUTSIDE);
        due("best 2", x.best(2), TwoTowns.OUTSIDE);
        dueBest(x, 1, 10);
        due("seam is kept", x.many(2), 7);
        due("all is kept", x.all(), 70);
        dueBest(CHECK.told("u07;009,d1010"), 13, 10);
        x = CHECK.told("u07;009,d0010,d1010");
        dueBest(x, 1, 140);
        x.away(0, true);
        dueBest(x, 13, 10);
        x.away(1, true);
        dueBest(x, 1, 0);
        x = CHECK.told("u07;009,d0010,d1010,d1010");
        dueBest(x, 13, 150);
        bestIsTheLeastOfAll();
    }

    private static void bestIsTheLeastOfAll() {
        TwoTowns x = CHECK.told("u07;309;402,h0013,d0022,f1101,d1133");
        x.gift(0, 3, 30);
        int seam = 0;
        int least = Integer.MAX_VALUE;
        for (int s = 1; s < 14; s++) {
            x.seam(s);
            if (x.all() < least) {
                least = x.all();
                seam = s;
            }
        }
        dueBest(x, seam, least);
    }

    private static void blame() {
        due("blame of nobody", new TwoTowns().blame(0), TwoTowns.UNKNOWN);
        TwoTowns x = CHECK.told("u07;079,d0010,d0010");
        due("chills 0", x.chills(0, 9), 43);
        due("chills 1", x.chills(1, 9), 49);
        due("blame 0", x.blame(0), 1049);
        due("blame 1", x.blame(1), 1043);
        due("nobody is away for it", x.ofPerson(0, 6), 0);
        due("blame 2", x.blame(2), TwoTowns.UNKNOWN);
        due("blame -1", x.blame(-1), TwoTowns.UNKNOWN);
        x.away(0, true);
        due("blame of one away", x.blame(0), 1000);
        due("blame beside one away", x.blame(1), 1000);
        x = CHECK.told("u03;991,d0000,d0009");
        due("blame of none", x.blame(0), 1000);
        due("blame of a mender", x.blame(1), 980);
    }

    private static void warm() {
        due("warm of nobody", new TwoTowns().warm(0), TwoTowns.UNKNOWN);
        TwoTowns x = CHECK.told("u03;991,d0000,d0009");
        due("warm already", x.warm(0), 0);
        due("warm 2", x.warm(2), TwoTowns.UNKNOWN);
        due("warm -1", x.warm(-1), TwoTowns.UNKNOWN);
        x.away(1, true);
        due("not without the mender", x.warm(0), TwoTowns.NONE);
        x.away(0, true);
        due("one who is away", x.warm(0), 0);
        x = CHECK.told("u03;031,d0030,d0009,d0010");
        due("the mender stays", x.warm(2), 1);
        due("nobody is away for it", x.ofPerson(0, 6), 0);
        x.away(0, true);
        due("more than are", x.warm(2), 0);
        x = CHECK.told("u01;019,d0010,d0010,d0010");
        due("the first is warm", x.warm(0), 0);
        due("one of two", x.warm(1), 1);
        due("both", x.warm(2), 3);
        x = CHECK.told("u01;029,d0010,d0010,d0010");
        due("of several the least", x.warm(2), 1);
        due("not even alone", CHECK.told("u01;009,d0010,d0010").warm(0), TwoTowns.NONE);
    }

    private static void logs() {
        due("logs of no house", new TwoTowns().logs(0), TwoTowns.UNKNOWN);
        TwoTowns x = CHECK.told("u02;059;009,d0030,d1000");
        due("one more", x.logs(0), 1);
        due("nobody in it", x.logs(1), 0);
        due("logs 2", x.logs(2), TwoTowns.UNKNOWN);
        due("logs -1", x.logs(-1), TwoTowns.UNKNOWN);
        due("no gift is left of it", x.many(3), 0);
        x.gift(0, 1, 99);
        due("a gift of another week", x.logs(0), 1);
        x.gift(0, 0, 1);
        due("a gift of week 0", x.logs(0), 0);
        x.undo(2);
        for (int k = 0; k < 6; k++) {
            x.gift(1, 0, 1);
        }
        due("beside six", x.logs(0), 1);
        x.away(0, true);
        due("away", x.logs(0), 0);
        due("99", CHECK.told("u11;009,d0050,h0030").logs(0), 99);
        due("108", CHECK.told("u09;009,f0050").logs(0), TwoTowns.NONE);
        due("it breaks", CHECK.told("u13;991,d0000").logs(0), TwoTowns.NONE);
        due("both towns", CHECK.told("u02;009,d0010,h1010").logs(0), 2 + 24);
    }

    private static void duePays(TwoTowns x, int p, int week, long upper, long lower) {
        due("pays upper " + p + " " + week, x.pays(p, week, 0), upper);
        due("pays lower " + p + " " + week, x.pays(p, week, 1), lower);
    }

    private static void pays() {
        due("pays of nobody", new TwoTowns().pays(0, 0, 0), TwoTowns.LOST);
        TwoTowns x = CHECK.told("u03;999,d0001,d0000,d0000");
        x.away(2, true);
        duePays(x, 0, 0, 2, 5);
        duePays(x, 1, 0, 3, 5);
        duePays(x, 0, 1, 2, 5);
        duePays(x, 1, 9, 3, 5);
        duePays(x, 2, 9, 0, 1);
        due("pays -1", x.pays(-1, 0, 0), TwoTowns.LOST);
        due("pays 3", x.pays(3, 0, 0), TwoTowns.LOST);
        due("pays week -1", x.pays(0, -1, 0), TwoTowns.LOST);
        due("pays week 10", x.pays(0, 10, 0), TwoTowns.LOST);
        due("pays which -1", x.pays(0, 0, -1), TwoTowns.LOST);
        due("pays which 2", x.pays(0, 0, 2), TwoTowns.LOST);
        x = CHECK.told("u03;991,d0000,d0009");
        duePays(x, 0, 0, 0, 1);
        duePays(x, 1, 0, 0, 1);
        x = CHECK.told("u03;999;999,d0000,d0100");
        duePays(x, 0, 4, 1, 2);
        x.away(0, true);
        duePays(x, 1, 4, 1, 1);
        x = CHECK.told("u03;999,d1001,d1000");
        duePays(x, 0, 0, 10, 21);
        duePays(x, 1, 0, 11, 21);
        x = CHECK.told("u03;009,d0010,d0010,d0000");
        duePays(x, 0, 2, 1, 3);
        duePays(x, 2, 2, 1, 3);
        due("pays names no fault", x.fault(), 0);
    }
}
