import java.lang.reflect.Array;
import java.util.ArrayList;
import java.util.List;
import java.util.function.IntPredicate;
import java.util.regex.Matcher;
import java.util.regex.Pattern;

/**
 * The document said once more, as plainly as the whole of Java allows: real arrays whose faults the
 * machine throws, TEXTS by patterns, each house lived through by itself and from the start for each
 * question. ModelTest holds the class against it.
 */
final class Model {
    private static final int UNKNOWN = -1, OUTSIDE = -2, STATE = -3, FULL = -4, NONE = -9;
    private static final long LOST = Long.MIN_VALUE;
    private static final Class<?>[] ROWS = {byte[].class, short[].class, int[].class};

    private static class Dweller {
        int town, house, burns, mends, number;
        boolean away;

        Dweller(int number, String told) {
            this.number = number;
            town = told.charAt(1) - '0';
            house = told.charAt(2) - '0';
            burns = told.charAt(3) - '0';
            mends = told.charAt(4) - '0';
        }

        int wants() {
            return burns;
        }

        int telling(Model m) {
            return dwellersTelling(m);
        }

        final int dwellersTelling(Model m) {
            m.leave(1);
            return burns;
        }

        int knocked(Model m) {
            m.leave(4);
            return number;
        }
    }

    private static class Hearty extends Dweller {
        Hearty(int number, String told) {
            super(number, told);
        }

        @Override int wants() {
            return super.wants() + 1;
        }

        @Override int telling(Model m) {
            m.leave(2);
            int given = super.telling(m);
            return given + 100;
        }
    }

    private static final class Froward extends Hearty {
        Froward(int number, String told) {
            super(number, told);
        }

        @Override int wants() {
            return 2 * super.wants();
        }

        @Override int telling(Model m) {
            m.leave(3);
            int given = super.telling(m);
            return given + dwellersTelling(m);
        }

        @Override int knocked(Model m) {
            m.leave(5);
            return 50;
        }
    }

    /** What a house went through: wood and WEAR as each half ended, who was COLD in it. */
    private static final class Story {
        final int[] wood = new int[140], wear = new int[140], cold = new int[140];
    }

    private final Object[] sheets = new Object[4];
    private int seam, trace, fault;
    private List<int[]> houses = new ArrayList<>();
    private List<Dweller> persons = new ArrayList<>();
    private final List<int[]> gifts = new ArrayList<>();
    private final List<int[]> readings = new ArrayList<>();

    private void leave(int body) {
        trace = trace * 31 + body;
    }

    private static boolean in(int v, int least, int most) {
        return least <= v && v <= most;
    }

    // ---- texts

    private static boolean goesOn(String start, boolean asWhole) {
        for (int n = 1; n <= 4; n++) {
            Matcher m = Pattern.compile("u(0[1-9]|1[0-3])(;[0-9][0-9][1-9]){" + n + "}(,[dhf][01][0-"
                + (n - 1) + "][0-5][0-9]){1,6}").matcher(start);
            if (m.matches() || !asWhole && m.hitEnd()) {
                return true;
            }
        }
        return false;
    }

    private interface Taking {
        int take();
    }

    private int faulting(Taking taking) {
        fault = 0;
        try {
            return taking.take();
        } catch (NullPointerException e) {
            fault = 1;
        } catch (ClassCastException e) {
            fault = 2;
        } catch (IndexOutOfBoundsException e) {
            fault = 3;
        } catch (NegativeArraySizeException e) {
            fault = 4;
        }
        return -10 - fault;
    }

    private int[] cells(int sheet, int lane, int i, int n) {
        Object row = ROWS[lane].cast(sheets[sheet]);
        row.hashCode();
        // No row has more than 60 cells: a larger n is an INDEX, not a want of memory.
        Object cut = Array.newInstance(ROWS[lane].getComponentType(), Math.min(n, 61));
        System.arraycopy(row, i, cut, 0, n);
        int[] all = new int[n];
        for (int k = 0; k < n; k++) {
            all[k] = Array.getInt(cut, k);
        }
        return all;
    }

    int houses(int sheet, int lane, int i, int n) {
        fault = 0;
        if (!in(sheet, 0, 3)) return UNKNOWN;
        if (!in(lane, 0, 2)) return OUTSIDE;
        return faulting(() -> take(cells(sheet, lane, i, n)));
    }

    private int take(int[] codes) {
        StringBuilder text = new StringBuilder();
        for (int code : codes) {
            text.append(in(code, 0, 127) ? (char) code : '?');
        }
        for (int n = 1; n <= text.length(); n++) {
            if (!goesOn(text.substring(0, n), false)) return -100 - (n - 1);
        }
        if (!goesOn(text.toString(), true)) return -100 - text.length();
        houses = new ArrayList<>();
        persons = new ArrayList<>();
        gifts.clear();
        readings.clear();
        String[] parts = text.toString().split("[;,]");
        seam = Integer.parseInt(parts[0].substring(1));
        for (int k = 1; k < parts.length; k++) {
            if (parts[k].length() == 3) {
                houses.add(new int[] {Integer.parseInt(parts[k].substring(0, 2)), parts[k].charAt(2) - '0'});
            } else {
                persons.add(dweller(persons.size(), parts[k]));
            }
        }
        return houses.size();
    }

    private static Dweller dweller(int number, String told) {
        switch (told.charAt(0)) {
            case 'd': return new Dweller(number, told);
            case 'h': return new Hearty(number, told);
            default: return new Froward(number, told);
        }
    }

    private static int kindOf(Dweller d) {
        return d instanceof Froward ? 2 : d instanceof Hearty ? 1 : 0;
    }

    private boolean noHouse(int h) {
        return !in(h, 0, houses.size() - 1);
    }

    private boolean nobody(int p) {
        return !in(p, 0, persons.size() - 1);
    }

    int ofHouse(int h, int what) {
        return noHouse(h) ? UNKNOWN : !in(what, 0, 1) ? OUTSIDE : houses.get(h)[what];
    }

    int ofPerson(int p, int what) {
        if (nobody(p)) return UNKNOWN;
        if (!in(what, 0, 6)) return OUTSIDE;
        Dweller d = persons.get(p);
        return new int[] {kindOf(d), d.town, d.house, d.burns, d.mends, d.wants(), d.away ? 1 : 0}[what];
    }

    int seam(int v) {
        if (!in(v, 1, 13)) return OUTSIDE;
        if (houses.isEmpty()) return STATE;
        int was = seam;
        seam = v;
        return was;
    }

    int away(int p, boolean is) {
        if (nobody(p)) return UNKNOWN;
        boolean was = persons.get(p).away;
        persons.get(p).away = is;
        return was == is ? 0 : 1;
    }

    int gift(int h, int week, int wood) {
        if (noHouse(h)) return UNKNOWN;
        if (!in(week, 0, 9) || !in(wood, 1, 99)) return OUTSIDE;
        if (gifts.size() == 6) return FULL;
        gifts.add(new int[] {h, week, wood});
        return gifts.size() - 1;
    }

    private static int takeBack(List<int[]> list, int k) {
        if (!in(k, 0, list.size())) return OUTSIDE;
        list.subList(list.size() - k, list.size()).clear();
        return list.size();
    }

    int undo(int k) {
        return takeBack(gifts, k);
    }

    // ---- weeks

    private Story live(int h) {
        Story s = new Story();
        List<Dweller> dwellers = new ArrayList<>();
        for (Dweller d : persons) {
            if (d.house == h && !d.away) dwellers.add(d);
        }
        int wood = 0, wear = 0, limit = 10 * houses.get(h)[1];
        for (int week = 0; week < 10; week++) {
            wood += houses.get(h)[0];
            for (int[] g : gifts) {
                if (g[0] == h && g[1] == week) wood += g[2];
            }
            wood = Math.min(wood, 99);
            for (int half = 0; half < 14; half++) {
                int now = 14 * week + half;
                List<Dweller> warm = new ArrayList<>();
                for (Dweller d : dwellers) {
                    if ((d.town == 0) != (half < seam)) continue;
                    boolean broken = wear >= limit;
                    if (!broken) wear++;
                    if (!broken && d.wants() <= wood) {
                        wood -= d.wants();
                        warm.add(d);
                    } else {
                        s.cold[now] += 1 << d.number;
                    }
                }
                boolean last = half == 13 || half + 1 == seam;
                for (Dweller d : warm) {
                    if (last && wear < limit) wear = wear < d.mends ? 0 : wear - d.mends;
                }
                s.wood[now] = wood;
                s.wear[now] = wear;
            }
        }
        return s;
    }

    int wood(int h, int week, int half) {
        if (noHouse(h)) return UNKNOWN;
        return in(week, 0, 9) && in(half, 0, 13) ? live(h).wood[14 * week + half] : OUTSIDE;
    }

    int wear(int h, int week, int half) {
        if (noHouse(h)) return UNKNOWN;
        return in(week, 0, 9) && in(half, 0, 13) ? live(h).wear[14 * week + half] : OUTSIDE;
    }

    int cold(int week, int half) {
        if (!in(week, 0, 9) || !in(half, 0, 13)) return OUTSIDE;
        if (houses.isEmpty()) return STATE;
        int set = 0;
        for (int h = 0; h < houses.size(); h++) set |= live(h).cold[14 * week + half];
        return set;
    }

    // ---- chills

    int chills(int p, int week) {
        if (nobody(p)) return UNKNOWN;
        if (!in(week, 0, 9)) return OUTSIDE;
        Story s = live(persons.get(p).house);
        int sum = 0;
        for (int now = 0; now < 14 * week + 14; now++) sum += s.cold[now] >> p & 1;
        return sum;
    }

    int all() {
        if (houses.isEmpty()) return STATE;
        int sum = 0;
        for (int p = 0; p < persons.size(); p++) sum += chills(p, 9);
        return sum;
    }

    int breaks(int h) {
        if (noHouse(h)) return UNKNOWN;
        Story s = live(h);
        for (int now = 0; now < 140; now++) {
            if (s.wear[now] >= 10 * houses.get(h)[1]) return now;
        }
        return NONE;
    }

    int best(int what) {
        if (!in(what, 0, 1)) return OUTSIDE;
        if (houses.isEmpty()) return STATE;
        int was = seam, best = 0, least = Integer.MAX_VALUE;
        for (seam = 1; seam <= 13; seam++) {
            int all = all();
            if (all < least) {
                least = all;
                best = seam;
            }
        }
        seam = was;
        return what == 0 ? best : least;
    }

    private interface Asked {
        int answer();
    }

    /** An answer, if those of a set are AWAY, too, or (alone) those and nobody else. */
    private int withAway(int set, boolean alone, Asked asked) {
        boolean[] was = new boolean[persons.size()];
        for (Dweller d : persons) {
            was[d.number] = d.away;
            boolean inSet = (set >> d.number & 1) == 1;
            d.away = alone ? inSet : d.away || inSet;
        }
        int answer = asked.answer();
        for (Dweller d : persons) d.away = was[d.number];
        return answer;
    }

    int blame(int p) {
        if (nobody(p)) return UNKNOWN;
        return 1000 + all() - chills(p, 9) - withAway(1 << p, false, this::all);
    }

    int warm(int p) {
        if (nobody(p)) return UNKNOWN;
        for (int many = 0; many < persons.size(); many++) {
            for (int set = 0; set < 1 << persons.size(); set++) {
                if (Integer.bitCount(set) != many || (set >> p & 1) == 1) continue;
                if (withAway(set, false, () -> chills(p, 9)) == 0) return set;
            }
        }
        return NONE;
    }

    int logs(int h) {
        if (noHouse(h)) return UNKNOWN;
        for (int wood = 0; wood <= 99; wood++) {
            gifts.add(new int[] {h, 0, wood});
            Story s = live(h);
            gifts.remove(gifts.size() - 1);
            int cold = 0;
            for (int half = 0; half < 14; half++) cold |= s.cold[half];
            if (cold == 0) return wood;
        }
        return NONE;
    }

    private int wearOfAll(int week) {
        int sum = 0;
        for (int h = 0; h < houses.size(); h++) sum += wear(h, week, 13);
        return sum;
    }

    private static long share(long upper, long lower, int which) {
        if (upper == 0) return which;
        long d = Math.min(upper, lower);
        while (upper % d != 0 || lower % d != 0) d--;
        return (which == 0 ? upper : lower) / d;
    }

    long pays(int p, int week, int which) {
        if (nobody(p) || !in(week, 0, 9) || !in(which, 0, 1)) return LOST;
        int now = wearOfAll(week), own = 0, sum = 0;
        for (int q = 0; q < persons.size(); q++) {
            int less = Math.max(now - withAway(1 << q, false, () -> wearOfAll(week)), 0);
            sum += less;
            if (p == q) own = less;
        }
        return share(own, sum, which);
    }

    // ---- together, thirds, what was seen

    int together(int p, int other, int stays) {
        if (nobody(p) || nobody(other) || p == other) return UNKNOWN;
        if (!in(stays, 0, 13)) return OUTSIDE;
        Dweller a = persons.get(p), b = persons.get(other);
        boolean[] is = new boolean[14];
        for (int half = 0; half < 14; half++) is[half] = (half < seam) == (a.town == 0);
        boolean[] home = is.clone();
        int next = a.town == 0 ? seam : 0;
        for (int k = 0; k < stays && !home[next]; k++) {
            is[next] = true;
            next = (next + 1) % 14;
        }
        int count = 0;
        for (int half = 0; half < 14; half++) {
            if (a.house == b.house && is[half] && (half < seam) == (b.town == 0)) count++;
        }
        return count;
    }

    private boolean isIn(Dweller d, int half) {
        return !d.away && d.town == (half < seam ? 0 : 1);
    }

    int third(int h) {
        if (noHouse(h)) return UNKNOWN;
        int set = 0;
        for (int half = 0; half < 14; half++) {
            boolean empty = true;
            for (Dweller d : persons) empty &= d.house != h || !isIn(d, half);
            if (empty) set |= 1 << half;
        }
        return set;
    }

    int row(int sheet, int lane, int i, int n) {
        fault = 0;
        if (!in(sheet, 0, 3)) return UNKNOWN;
        if (!in(lane, 0, 2)) return OUTSIDE;
        return faulting(() -> asked(cells(sheet, lane, i, n)));
    }

    private int asked(int[] cells) {
        if (houses.isEmpty()) return STATE;
        if (cells.length > 14) return OUTSIDE;
        for (int p : cells) {
            if (nobody(p)) return UNKNOWN;
        }
        for (int k = 0; k < cells.length; k++) {
            if (!isIn(persons.get(cells[k]), k)) return k;
        }
        return cells.length;
    }

    int reading(int h, int week, int half, int v) {
        if (noHouse(h)) return UNKNOWN;
        if (!in(week, 0, 9) || !in(half, 0, 13) || !in(v, 0, 99)) return OUTSIDE;
        if (readings.size() == 8) return FULL;
        readings.add(new int[] {h, week, half, v});
        return readings.size() - 1;
    }

    int back(int k) {
        return takeBack(readings, k);
    }

    private int allSo() {
        for (int[] r : readings) {
            if (wear(r[0], r[1], r[2]) != r[3]) return 0;
        }
        return 1;
    }

    private static int set(int least, int most, IntPredicate is) {
        int set = 0;
        for (int k = least; k <= most; k++) {
            if (is.test(k)) set |= 1 << k;
        }
        return set;
    }

    int gone() {
        if (houses.isEmpty()) return STATE;
        return set(0, persons.size() - 1, p -> withAway(1 << p, false, this::allSo) == 1);
    }

    int seams() {
        if (houses.isEmpty()) return STATE;
        int was = seam;
        int set = set(1, 13, s -> {
            seam = s;
            return allSo() == 1;
        });
        seam = was;
        return set;
    }

    int kinds(int p) {
        if (nobody(p)) return UNKNOWN;
        Dweller was = persons.get(p);
        int set = set(0, 2, kind -> {
            Dweller d = dweller(p, "" + "dhf".charAt(kind) + was.town + was.house + was.burns + was.mends);
            d.away = was.away;
            persons.set(p, d);
            return allSo() == 1;
        });
        persons.set(p, was);
        return set;
    }

    private int chillsOfAllBy(int week) {
        int sum = 0;
        for (int p = 0; p < persons.size(); p++) sum += chills(p, week);
        return sum;
    }

    long odds(int week, int which) {
        if (!in(week, 0, 9) || !in(which, 0, 1) || houses.isEmpty()) return LOST;
        int sets = 1 << persons.size(), warm = 0;
        for (int set = 0; set < sets; set++) {
            if (withAway(set, true, () -> chillsOfAllBy(week)) == 0) warm++;
        }
        return share(warm, sets, which);
    }

    // ---- sheets, parts

    int sheet(int k, int lane, int n) {
        fault = 0;
        if (!in(k, 0, 3)) return UNKNOWN;
        if (!in(lane, 0, 2) || n > 60) return OUTSIDE;
        return faulting(() -> {
            sheets[k] = Array.newInstance(ROWS[lane].getComponentType(), n);
            return 1;
        });
    }

    int lose(int k) {
        if (!in(k, 0, 3)) return UNKNOWN;
        int had = sheets[k] == null ? 0 : 1;
        sheets[k] = null;
        return had;
    }

    int put(int k, int i, int v) {
        fault = 0;
        if (!in(k, 0, 3)) return UNKNOWN;
        return faulting(() -> {
            if (sheets[k] instanceof byte[] row) {
                row[i] = (byte) v;
            } else if (sheets[k] instanceof short[] row) {
                row[i] = (short) v;
            } else {
                ((int[]) sheets[k])[i] = v;
            }
            return 1;
        });
    }

    long cell(int k, int i, int lane) {
        fault = 0;
        if (!in(k, 0, 3) || !in(lane, 0, 2)) return LOST;
        int[] got = new int[1];
        int answer = faulting(() -> {
            got[0] = Array.getInt(ROWS[lane].cast(sheets[k]), i);
            return 0;
        });
        return answer == 0 ? got[0] : LOST;
    }

    int copy(int k, int i, int other, int j, int n) {
        fault = 0;
        if (!in(k, 0, 3) || !in(other, 0, 3)) return UNKNOWN;
        return faulting(() -> {
            sheets[k].hashCode();
            sheets[k].getClass().cast(sheets[other].getClass() == null ? null : sheets[other]);
            System.arraycopy(sheets[k], i, sheets[other], j, n);
            return n;
        });
    }

    int tell(int p) {
        return nobody(p) ? UNKNOWN : persons.get(p).telling(this);
    }

    int knock(int p) {
        return nobody(p) ? UNKNOWN : persons.get(p).knocked(this);
    }

    int as(int p, int kind) {
        fault = 0;
        if (nobody(p)) return UNKNOWN;
        if (!in(kind, 0, 2)) return OUTSIDE;
        return faulting(() -> {
            List.of(Dweller.class, Hearty.class, Froward.class).get(kind).cast(persons.get(p));
            return 1;
        });
    }

    int trace() {
        return trace;
    }

    int fault() {
        return fault;
    }

    int many(int what) {
        if (!in(what, 0, 4)) return OUTSIDE;
        int[] all = {houses.size(), persons.size(), houses.isEmpty() ? 0 : seam, gifts.size(), readings.size()};
        return all[what];
    }
}
