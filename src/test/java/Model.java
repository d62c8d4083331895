import java.util.ArrayDeque;
import java.util.ArrayList;
import java.util.Deque;
import java.util.List;
import java.util.regex.Matcher;
import java.util.regex.Pattern;

/** The document written a second time, with other means, to compare long runs of calls with. */
final class Model {
    private static final String COMMAND = "c([0-3])([1-8]\\d\\d|900)"
        + "|s(\\d)([0-3])(00[1-9]|0[1-9]\\d|[1-7]\\d\\d|800)"
        + "|h(\\d)([0-3])(0[1-9]|[1-9]\\d)"
        + "|f([0-4]\\d|50)([0-4]\\d|50)([0-4]\\d|50)([0-4]\\d|50)"
        + "|b(\\d)([0-3])([0-3])"
        + "|t(\\d)"
        + "|w(\\d)(00[1-9]|0[1-9]\\d|1\\d\\d|200)"
        + "|g([0-3])([0-3])([0-8]\\d\\d|900)";
    private static final Pattern OFFICE = Pattern.compile("K(?:" + COMMAND + ")*");
    private static final Pattern ONE = Pattern.compile(COMMAND);

    private static final class Seat {
        int guild;
        int floor;
        int turn;
        int sitters;
        boolean stamped;
        int[] legs;

        Seat copy() {
            Seat s = new Seat();
            s.guild = guild;
            s.floor = floor;
            s.turn = turn;
            s.sitters = sitters;
            s.stamped = stamped;
            s.legs = legs.clone();
            return s;
        }
    }

    private static final class World {
        List<Seat> seats = new ArrayList<>();
        List<int[]> floors = new ArrayList<>();
        int[][] bounds = new int[4][];
        int[] settings = {5, 60};
        int[] counts = new int[11];

        World() {
            floors.add(new int[4]);
            for (int g = 0; g < 4; g++) {
                bounds[g] = new int[] {400, 500, 4, 12};
            }
        }

        World copy() {
            World w = new World();
            w.floors.clear();
            for (Seat s : seats) {
                w.seats.add(s.copy());
            }
            for (int[] f : floors) {
                w.floors.add(f.clone());
            }
            for (int g = 0; g < 4; g++) {
                w.bounds[g] = bounds[g].clone();
            }
            w.settings = settings.clone();
            w.counts = counts.clone();
            return w;
        }
    }

    private World w = new World();
    private final Deque<World> past = new ArrayDeque<>();
    private final World[] slots = new World[2];
    private String text = "";

    // ---- checks

    private static void index(boolean ok) {
        if (!ok) {
            throw new IndexOutOfBoundsException();
        }
    }

    private static void argument(boolean ok) {
        if (!ok) {
            throw new IllegalArgumentException();
        }
    }

    private static void state(boolean ok) {
        if (!ok) {
            throw new IllegalStateException();
        }
    }

    private static boolean in(long v, long least, long most) {
        return least <= v && v <= most;
    }

    private Seat seat(int c) {
        index(in(c, 0, w.seats.size() - 1));
        return w.seats.get(c);
    }

    private int[] floorAt(int f) {
        index(in(f, 0, w.floors.size() - 1));
        return w.floors.get(f);
    }

    private static void four(int k) {
        index(in(k, 0, 3));
    }

    // ---- text

    int append(int c) {
        argument(in(c, 0, 255));
        state(text.length() < 120);
        text += (char) c;
        return text.length();
    }

    int clearText() {
        int n = text.length();
        text = "";
        return n;
    }

    int errorPosition() {
        for (int i = 1; i <= text.length(); i++) {
            Matcher m = OFFICE.matcher(text.substring(0, i));
            if (!m.matches() && !m.hitEnd()) {
                return i - 1;
            }
        }
        return OFFICE.matcher(text).matches() ? -1 : text.length();
    }

    int load() {
        state(errorPosition() == -1);
        w = new World();
        slots[0] = null;
        slots[1] = null;
        int left = 0;
        Matcher m = ONE.matcher(text.substring(1));
        while (m.find()) {
            List<Integer> n = new ArrayList<>();
            for (int i = 1; i <= m.groupCount(); i++) {
                if (m.group(i) != null) {
                    n.add(Integer.parseInt(m.group(i)));
                }
            }
            try {
                switch (m.group().charAt(0)) {
                    case 'c' -> chair(n.get(0), n.get(1));
                    case 's' -> saw(n.get(0), n.get(1), n.get(2));
                    case 'h' -> shim(n.get(0), n.get(1), n.get(2));
                    case 'f' -> floor(n.get(0), n.get(1), n.get(2), n.get(3));
                    case 'b' -> bring(n.get(0), n.get(1), n.get(2));
                    case 't' -> test(n.get(0));
                    case 'w' -> sit(n.get(0), n.get(1));
                    default -> bound(n.get(0), n.get(1), n.get(2));
                }
            } catch (IndexOutOfBoundsException | IllegalArgumentException | IllegalStateException e) {
                left++;
            }
        }
        past.clear();
        return left;
    }

    // ---- what there is

    int about(int what) {
        argument(in(what, 0, 10));
        if (what == 0) {
            return w.seats.size();
        }
        if (what == 1) {
            return w.floors.size();
        }
        return what == 2 ? stamped() : w.counts[what];
    }

    private int stamped() {
        return (int) w.seats.stream().filter(s -> s.stamped).count();
    }

    /** The reaches by legs, as the seat stands on that floor, so turned. */
    private int[] reaches(Seat s, int f, int q) {
        int[] r = new int[4];
        for (int k = 0; k < 4; k++) {
            r[k] = s.legs[k] - w.floors.get(f)[(k + q) % 4];
        }
        return r;
    }

    private int[] reaches(Seat s) {
        return reaches(s, s.floor, s.turn);
    }

    private static int wobbleOf(int[] r) {
        return Math.abs(r[0] - r[1] + r[2] - r[3]);
    }

    private static int leanOf(int[] r) {
        int[] sorted = r.clone();
        java.util.Arrays.sort(sorted);
        return sorted[3] - sorted[0];
    }

    private static int idleOf(int[] r) {
        int side = Integer.compare(r[0] + r[2], r[1] + r[3]);
        if (side == 0) {
            return -1;
        }
        int low = side < 0 ? 0 : 1;
        return r[low] <= r[low + 2] ? low : low + 2;
    }

    private static int seatOf(Seat s) {
        return (s.legs[0] + s.legs[1] + s.legs[2] + s.legs[3]) / 4;
    }

    private int reasonOf(Seat s) {
        int[] b = w.bounds[s.guild];
        boolean[] fails = {wobbleOf(reaches(s)) > b[2], leanOf(reaches(s)) > b[3], seatOf(s) < b[0], seatOf(s) > b[1]};
        for (int i = 0; i < 4; i++) {
            if (fails[i]) {
                return i + 1;
            }
        }
        return 0;
    }

    int chairOf(int c, int what) {
        Seat s = seat(c);
        argument(in(what, 0, 8));
        int[] all = {s.guild, s.floor, s.turn, leanOf(reaches(s)), seatOf(s), idleOf(reaches(s)), s.stamped ? 1 : 0,
            reasonOf(s), s.sitters};
        return all[what];
    }

    int wobble(int c, int way) {
        Seat s = seat(c);
        argument(in(way, 0, 1));
        return wobbleOf(reaches(s));
    }

    int legOf(int c, int k, int what) {
        Seat s = seat(c);
        four(k);
        argument(in(what, 0, 2));
        return what == 0 ? s.legs[k] : what == 1 ? reaches(s)[k] : (k + s.turn) % 4;
    }

    int spot(int f, int k) {
        int[] floor = floorAt(f);
        four(k);
        return floor[k];
    }

    int boundOf(int g, int k) {
        four(g);
        four(k);
        return w.bounds[g][k];
    }

    int setting(int what) {
        argument(in(what, 0, 1));
        return w.settings[what];
    }

    // ---- actions

    private void remember() {
        past.addLast(w.copy());
        if (past.size() > 14) {
            past.removeFirst();
        }
    }

    private int unstamp(Seat s) {
        int was = s.stamped ? 1 : 0;
        s.stamped = false;
        w.counts[5] += was;
        return was;
    }

    int chair(int g, int length) {
        four(g);
        argument(in(length, 100, 900));
        state(w.seats.size() < 10);
        remember();
        Seat s = new Seat();
        s.guild = g;
        s.legs = new int[] {length, length, length, length};
        w.seats.add(s);
        return w.seats.size() - 1;
    }

    int floor(int... spots) {
        for (int v : spots) {
            argument(in(v, 0, 50));
        }
        state(w.floors.size() < 4);
        remember();
        w.floors.add(spots.clone());
        return w.floors.size() - 1;
    }

    int level(int f, int k, int v) {
        int old = spot(f, k);
        argument(in(v, 0, 50));
        remember();
        if (old != v) {
            w.floors.get(f)[k] = v;
            w.seats.stream().filter(s -> s.floor == f).forEach(this::unstamp);
        }
        return old;
    }

    int bring(int c, int f, int q) {
        Seat s = seat(c);
        floorAt(f);
        argument(in(q, 0, 3));
        remember();
        if (10 * s.floor + s.turn != 10 * f + q) {
            unstamp(s);
        }
        s.floor = f;
        s.turn = q;
        return wobbleOf(reaches(s));
    }

    int saw(int c, int k, int n) {
        Seat s = seat(c);
        four(k);
        argument(in(n, 1, 800));
        state(s.legs[k] - n >= 100);
        remember();
        unstamp(s);
        w.counts[8] += n;
        return s.legs[k] -= n;
    }

    int shim(int c, int k, int n) {
        Seat s = seat(c);
        four(k);
        argument(in(n, 1, 99));
        state(s.legs[k] + n <= 900);
        remember();
        unstamp(s);
        w.counts[9] += n;
        return s.legs[k] += n;
    }

    int test(int c) {
        Seat s = seat(c);
        remember();
        w.counts[3]++;
        w.counts[6] += w.settings[0];
        int reason = reasonOf(s);
        if (reason == 0 && !s.stamped) {
            s.stamped = true;
            w.counts[4]++;
        }
        return reason;
    }

    /** Lets the legs of a seat wear, and answers how much. */
    private int wear(Seat s, int weight) {
        int idle = idleOf(reaches(s));
        int sum = 0;
        for (int k = 0; k < 4; k++) {
            int length = k == idle ? s.legs[k] : Math.max(100, s.legs[k] - weight / w.settings[1]);
            sum += s.legs[k] - length;
            s.legs[k] = length;
        }
        return sum;
    }

    int sit(int c, int weight) {
        Seat s = seat(c);
        argument(in(weight, 1, 200));
        remember();
        s.sitters++;
        w.counts[7]++;
        int worn = wear(s, weight);
        w.counts[10] += worn;
        if (worn > 0) {
            unstamp(s);
        }
        return worn;
    }

    int bound(int g, int k, int v) {
        four(g);
        four(k);
        argument(k < 2 ? in(v, 100, 900) : in(v, 0, k == 2 ? 100 : 200));
        remember();
        w.bounds[g][k] = v;
        return w.seats.stream().filter(s -> s.guild == g && reasonOf(s) != 0).mapToInt(this::unstamp).sum();
    }

    int set(int what, int v) {
        argument(what == 0 && in(v, 0, 50) || what == 1 && in(v, 1, 200));
        remember();
        int old = w.settings[what];
        w.settings[what] = v;
        return old;
    }

    int undo() {
        state(!past.isEmpty());
        w = past.removeLast();
        return past.size();
    }

    // ---- what would be

    int bestTurn(int c, int f, int what) {
        Seat s = seat(c);
        floorAt(f);
        argument(in(what, 0, 1));
        int best = Integer.MAX_VALUE;
        for (int q = 0; q < 4; q++) {
            int[] r = reaches(s, f, q);
            best = Math.min(best, (wobbleOf(r) * 10000 + leanOf(r)) * 4 + q);
        }
        return what == 0 ? best % 4 : best / 40000;
    }

    int bestSaw(int c) {
        Seat s = seat(c);
        int wobble = wobbleOf(reaches(s));
        int best = -1;
        int least = Integer.MAX_VALUE;
        for (int k = 0; k < 4; k++) {
            Seat sawn = s.copy();
            sawn.legs[k] -= wobble;
            int[] r = reaches(sawn);
            if (wobble > 0 && sawn.legs[k] >= 100 && wobbleOf(r) == 0 && leanOf(r) < least) {
                best = k;
                least = leanOf(r);
            }
        }
        return best;
    }

    int failsIn(int c, int weight) {
        Seat s = seat(c).copy();
        argument(in(weight, 1, 200));
        int sitters = 0;
        while (sitters <= 100 && reasonOf(s) == 0) {
            wear(s, weight);
            sitters++;
        }
        return sitters > 100 ? -1 : sitters;
    }

    int bestFloor(int c) {
        seat(c);
        int best = w.floors.size() - 1;
        for (int f = best - 1; f >= 0; f--) {
            if (bestTurn(c, f, 1) <= bestTurn(c, best, 1)) {
                best = f;
            }
        }
        return best;
    }

    int sound() {
        int set = 0;
        for (Seat s : w.seats) {
            set += reasonOf(s) == 0 ? 1 << w.seats.indexOf(s) : 0;
        }
        return set;
    }

    // ---- scripts, simulations

    int runScript(int n, long script) {
        argument(in(n, 1, 3) && script >= 0 && Long.toString(script).length() <= 6 * n);
        Model m = new Model();
        m.w = w.copy();
        String digits = String.format("%0" + 6 * n + "d", script);
        for (int i = 0; i < n; i++) {
            boolean ok;
            try {
                ok = m.group(digits.substring(6 * i, 6 * i + 6));
            } catch (IndexOutOfBoundsException | IllegalArgumentException | IllegalStateException e) {
                ok = false;
            }
            if (!ok) {
                return i;
            }
        }
        return -1;
    }

    private boolean group(String d) {
        int a = d.charAt(1) - '0';
        int b = d.charAt(2) - '0';
        int last = Integer.parseInt(d.substring(3));
        if (d.matches("1.....")) {
            saw(a, b, last);
        } else if (d.matches("2..0..")) {
            shim(a, b, last);
        } else if (d.matches("3...00")) {
            bring(a, b, d.charAt(3) - '0');
        } else if (d.matches("4.000.")) {
            return test(a) == last;
        } else if (d.matches("5.0...")) {
            sit(a, last);
        } else if (d.matches("6.....")) {
            bound(a, b, last);
        } else if (d.matches("7.0...")) {
            return wobble(a, 0) <= last;
        } else if (d.matches("8.000.")) {
            return chairOf(a, 6) == last;
        } else {
            return d.matches("9.0...") && chairOf(a, 3) <= last;
        }
        return true;
    }

    int simulate(long seed, int m) {
        argument(in(m, 1, 60));
        Model copy = new Model();
        copy.w = w.copy();
        long x = seed;
        for (int i = 0; i < m; i++) {
            x = x * 6364136223846793005L + 1442695040888963407L;
            int r = (int) (x >>> 33);
            try {
                copy.simulated(r % 16, r / 16);
            } catch (IndexOutOfBoundsException | IllegalArgumentException | IllegalStateException e) {
                // What would throw an exception is left out.
            }
        }
        return 10000 * (copy.w.counts[4] - w.counts[4]) + 100 * copy.stamped() + copy.w.counts[5] - w.counts[5];
    }

    private void simulated(int kind, int q) {
        if (kind <= 1) {
            chair(q % 4, 400 + q / 4 % 101);
        } else if (kind == 2) {
            floor(q % 9, q / 9 % 9, q / 81 % 9, q / 729 % 9);
        } else if (kind == 3) {
            level(q % 4, q / 4 % 4, q / 16 % 12);
        } else if (kind <= 5) {
            saw(q % 10, q / 16 % 4, 1 + q / 64 % 9);
        } else if (kind == 6) {
            shim(q % 10, q / 16 % 4, 1 + q / 64 % 9);
        } else if (kind == 7) {
            bring(q % 10, q / 16 % 4, q / 64 % 4);
        } else if (kind <= 10) {
            test(q % 10);
        } else if (kind == 11) {
            bound(q % 4, 2 + q / 4 % 2, q / 8 % 30);
        } else {
            sit(q % 10, 1 + q / 16 % 200);
        }
    }

    // ---- save slots

    int save(int slot) {
        index(in(slot, 0, 1));
        slots[slot] = w.copy();
        return stamped();
    }

    int restore(int slot) {
        index(in(slot, 0, 1));
        state(slots[slot] != null);
        w = slots[slot].copy();
        past.clear();
        return stamped();
    }
}
