import java.lang.reflect.Array;
import java.math.BigInteger;
import java.util.ArrayDeque;
import java.util.ArrayList;
import java.util.Deque;
import java.util.List;

/**
 * The document a second time, written for plainness alone: states are copied whole, rain is every one of its
 * 1024 ways, orders are found by trying all, sheets are Java's own rows and the machine finds their faults.
 * Of texts it knows only how to take one that is without a fault (TextTest has the rest).
 */
final class Model {
    static final class Rider {
        int kind;
        int heavy;
        int lean;
        int where = 30;

        Rider(int kind, int heavy, int lean) {
            this.kind = kind;
            this.heavy = heavy;
            this.lean = lean;
        }

        Rider twin() {
            Rider r = new Rider(kind, heavy, lean);
            r.where = where;
            return r;
        }
    }

    static final class State {
        int[] rough = {1, 1, 1, 1, 1, 1, 1, 1, 1, 1};
        int[] bump = new int[10];
        List<Rider> riders = new ArrayList<>();
        int rides = 0;
        long draw = 1;
        Deque<State> pasts = new ArrayDeque<>();

        State twin() {
            State s = new State();
            s.rough = rough.clone();
            s.bump = bump.clone();
            for (Rider r : riders) {
                s.riders.add(r.twin());
            }
            s.rides = rides;
            s.draw = draw;
            return s;
        }

        State twinWithPasts() {
            State s = twin();
            for (State past : pasts) {
                s.pasts.addLast(past.twin());
            }
            return s;
        }

        void known() {
            pasts.addLast(twin());
            if (pasts.size() > 8) {
                pasts.removeFirst();
            }
        }

        int gain(Rider r, int turn, int speed) {
            int plain = 2;
            int stout = plain + r.heavy / 5;
            int clerk = speed >= 6 ? plain - 2 : plain;
            int stander = turn % 2 == 0 ? stout : stout / 2;
            int king = clerk + bump[turn] + bump[turn];
            return new int[] {plain, stout, clerk, stander, king}[r.kind];
        }

        /** The ride is really taken, on this state; speeds behind turns are told as they come. */
        int go(Rider r, List<Integer> speeds) {
            r.where = 30;
            int speed = 2;
            int end = -1;
            for (int t = 0; t < 10 && end < 0; t++) {
                speed = speed + gain(r, t, speed) - rough[t] - bump[t];
                if (speed > 30) {
                    speed = 30;
                }
                for (Rider other : riders) {
                    if (other.where == 10 + t) {
                        other.where = 30;
                        if (speed > 0) {
                            speed = speed / 2;
                        }
                    }
                }
                if (speed <= 0) {
                    end = 10 + t;
                } else {
                    speeds.add(speed);
                }
            }
            for (int t = 0; t < speeds.size(); t++) {
                if (rough[t] > 0) {
                    rough[t]--;
                }
            }
            r.where = end >= 0 ? end : (speed + r.lean) % 8;
            rides++;
            return r.where;
        }

        int through() {
            int set = 0;
            for (int r = 0; r < riders.size(); r++) {
                set |= riders.get(r).where < 8 ? 1 << r : 0;
            }
            return set;
        }
    }

    State s = new State();
    State image = null;
    Object[] sheets = new Object[4];

    // ---- foretold, each on a twin

    private List<Integer> speedsOn(State on, int rider) {
        List<Integer> speeds = new ArrayList<>();
        State twin = on.twin();
        twin.go(twin.riders.get(rider), speeds);
        while (speeds.size() < 10) {
            speeds.add(-4);
        }
        return speeds;
    }

    private int endOn(State on, int rider) {
        State twin = on.twin();
        return twin.go(twin.riders.get(rider), new ArrayList<>());
    }

    private boolean noRider(int r) {
        return r < 0 || r >= s.riders.size();
    }

    private static boolean out(int v, int least, int most) {
        return v < least || v > most;
    }

    // ---- 1

    int rider(int kind, int heavy, int lean) {
        if (out(kind, 0, 4) || out(heavy, 1, 20) || out(lean, 0, 7)) {
            return -1;
        }
        if (s.riders.size() == 5) {
            return -3;
        }
        s.riders.add(new Rider(kind, heavy, lean));
        s.pasts.clear();
        return s.riders.size() - 1;
    }

    int lean(int rider, int v) {
        if (noRider(rider) || out(v, 0, 7)) {
            return -1;
        }
        int was = s.riders.get(rider).lean;
        s.riders.get(rider).lean = v;
        return was;
    }

    int of(int rider, int what) {
        if (noRider(rider) || out(what, 0, 3)) {
            return -1;
        }
        Rider r = s.riders.get(rider);
        return new int[] {r.kind, r.heavy, r.lean, r.where}[what];
    }

    int at(int turn, int what) {
        if (out(turn, 0, 9) || out(what, 0, 2)) {
            return -1;
        }
        int who = -4;
        for (int r = 0; r < s.riders.size(); r++) {
            who = s.riders.get(r).where == 10 + turn ? r : who;
        }
        return new int[] {s.rough[turn], s.bump[turn], who}[what];
    }

    int gains(int rider, int turn, int speed) {
        if (noRider(rider) || out(turn, 0, 9) || out(speed, 0, 30)) {
            return -1;
        }
        return s.gain(s.riders.get(rider), turn, speed);
    }

    /** A text without a fault. */
    int slide(String text) {
        String t = text.replace(" ", "");
        State told = new State();
        told.draw = s.draw;
        int semicolon = t.indexOf(';');
        String turns = semicolon < 0 ? t : t.substring(0, semicolon);
        int turn = -1;
        for (int i = 0; i < turns.length(); i++) {
            if (turns.charAt(i) == '^') {
                i++;
                told.bump[turn] = turns.charAt(i) - '0';
            } else {
                turn++;
                told.rough[turn] = turns.charAt(i) - '0';
            }
        }
        if (semicolon >= 0) {
            for (String one : t.substring(semicolon + 1).split(",")) {
                String[] parts = one.substring(1).split("<");
                int lean = parts.length > 1 ? Integer.parseInt(parts[1]) : 0;
                told.riders.add(new Rider("pscnk".indexOf(one.charAt(0)), Integer.parseInt(parts[0]), lean));
            }
        }
        s = told;
        return s.riders.size();
    }

    int count(int what) {
        int top = 0;
        int stuck = 0;
        int rough = 0;
        int bumps = 0;
        for (int r = 0; r < s.riders.size(); r++) {
            int where = s.riders.get(r).where;
            top |= where == 30 ? 1 << r : 0;
            stuck |= where >= 10 && where < 20 ? 1 << where - 10 : 0;
        }
        for (int t = 0; t < 10; t++) {
            rough += s.rough[t];
            bumps += s.bump[t];
        }
        int[] all = {s.riders.size(), s.rides, top, s.through(), stuck, rough, bumps, s.pasts.size()};
        return out(what, 0, 7) ? -1 : all[what];
    }

    // ---- what is done

    int ride(int rider) {
        if (noRider(rider)) {
            return -1;
        }
        if (s.rides == 9999) {
            return -3;
        }
        if (s.riders.get(rider).where != 30) {
            return -2;
        }
        s.known();
        return s.go(s.riders.get(rider), new ArrayList<>());
    }

    int wax(int turn, int v) {
        if (out(turn, 0, 9) || out(v, 0, 9)) {
            return -1;
        }
        int was = s.rough[turn];
        if (was == v) {
            return -2;
        }
        s.known();
        s.rough[turn] = v;
        return was;
    }

    int hammer(int turn, int v) {
        if (out(turn, 0, 9) || out(v, 0, 9)) {
            return -1;
        }
        int was = s.bump[turn];
        if (was == v) {
            return -2;
        }
        s.known();
        s.bump[turn] = v;
        return was;
    }

    int up(int rider) {
        if (noRider(rider)) {
            return -1;
        }
        int was = s.riders.get(rider).where;
        if (was == 30) {
            return -2;
        }
        s.known();
        s.riders.get(rider).where = 30;
        return was;
    }

    int drift(int n) {
        if (out(n, 1, 40)) {
            return -1;
        }
        if (s.rides + n > 9999) {
            return -3;
        }
        for (int i = 0; i < n; i++) {
            s.known();
            s.draw = (s.draw * 1103515245L + 12345L) % 2147483648L;
            if (!s.riders.isEmpty()) {
                Rider r = s.riders.get((int) (s.draw / 65536 % s.riders.size()));
                if (r.where == 30) {
                    s.go(r, new ArrayList<>());
                } else {
                    r.where = 30;
                }
            }
            int turn = (int) (s.draw / 128 % 10);
            if (s.rough[turn] < 9) {
                s.rough[turn]++;
            }
        }
        return s.through();
    }

    int undo() {
        if (s.pasts.isEmpty()) {
            return -4;
        }
        State past = s.pasts.removeLast();
        s.rough = past.rough;
        s.bump = past.bump;
        s.rides = past.rides;
        s.draw = past.draw;
        for (int r = 0; r < s.riders.size(); r++) {
            s.riders.get(r).where = past.riders.get(r).where;
        }
        return s.pasts.size();
    }

    int seed(int v) {
        if (v < 0) {
            return -1;
        }
        int was = (int) s.draw;
        s.draw = v;
        return was;
    }

    // ---- 2

    int speed(int rider, int turn) {
        return noRider(rider) || out(turn, 0, 9) ? -1 : speedsOn(s, rider).get(turn);
    }

    int ends(int rider) {
        return noRider(rider) ? -1 : endOn(s, rider);
    }

    int fast(int rider, int what) {
        if (noRider(rider) || out(what, 0, 1)) {
            return -1;
        }
        List<Integer> speeds = speedsOn(s, rider);
        int most = 0;
        int turn = -4;
        for (int t = 0; t < 10; t++) {
            if (speeds.get(t) > most) {
                most = speeds.get(t);
                turn = t;
            }
        }
        return turn == -4 ? -4 : what == 0 ? turn : most;
    }

    int who(int x) {
        if (out(x, 0, 7)) {
            return -1;
        }
        int set = 0;
        for (int r = 0; r < s.riders.size(); r++) {
            set |= endOn(s, r) == x ? 1 << r : 0;
        }
        return set;
    }

    int waxes(int rider, int x) {
        if (noRider(rider) || out(x, 0, 7)) {
            return -1;
        }
        if (endOn(s, rider) == x) {
            return 100;
        }
        for (int told = 0; told < 100; told++) {
            State twin = s.twin();
            twin.rough[told / 10] = told % 10;
            if (endOn(twin, rider) == x) {
                return told;
            }
        }
        return -4;
    }

    int may(int rider, int turn) {
        if (noRider(rider) || out(turn, 0, 9)) {
            return -1;
        }
        int set = 0;
        for (int v = 0; v < 10; v++) {
            State twin = s.twin();
            twin.rough[turn] = v;
            int end = endOn(twin, rider);
            set |= end < 8 ? 1 << end : 0;
        }
        return set;
    }

    int weight(int rider) {
        if (noRider(rider)) {
            return -1;
        }
        for (int heavy = 1; heavy <= 20; heavy++) {
            State twin = s.twin();
            twin.riders.get(rider).heavy = heavy;
            if (endOn(twin, rider) < 8) {
                return heavy;
            }
        }
        return -4;
    }

    int bump(int what) {
        if (out(what, 0, 1)) {
            return -1;
        }
        int turn = 0;
        int most = -1;
        for (int t = 0; t < 10; t++) {
            State twin = s.twin();
            twin.bump[t] = 0;
            int through = 0;
            for (int r = 0; r < s.riders.size(); r++) {
                through += endOn(twin, r) < 8 ? 1 : 0;
            }
            if (through > most) {
                most = through;
                turn = t;
            }
        }
        return what == 0 ? turn : most;
    }

    private int most;
    private List<Integer> bestOrder;

    private void tryOrders(State on, List<Integer> gone, List<Integer> left) {
        if (left.isEmpty() && Integer.bitCount(on.through()) > most) {
            most = Integer.bitCount(on.through());
            bestOrder = gone;
        }
        for (Integer r : left) {
            State twin = on.twin();
            twin.go(twin.riders.get(r), new ArrayList<>());
            List<Integer> more = new ArrayList<>(gone);
            more.add(r);
            List<Integer> less = new ArrayList<>(left);
            less.remove(r);
            tryOrders(twin, more, less);
        }
    }

    int order(int k) {
        if (k < -1) {
            return -1;
        }
        most = -1;
        List<Integer> left = new ArrayList<>();
        for (int r = 0; r < s.riders.size(); r++) {
            if (s.riders.get(r).where == 30) {
                left.add(r);
            }
        }
        tryOrders(s, new ArrayList<>(), left);
        return k == -1 ? most : k < bestOrder.size() ? bestOrder.get(k) : -4;
    }

    long rain(int rider, int c, int what) {
        if (noRider(rider) || out(c, 0, 10) || out(what, 0, 1)) {
            return -1;
        }
        BigInteger above = BigInteger.ZERO;
        for (int wet = 0; wet < 1024; wet++) {
            State twin = s.twin();
            BigInteger ways = BigInteger.ONE;
            for (int t = 0; t < 10; t++) {
                boolean rains = (wet >> t & 1) == 1;
                twin.rough[t] = rains ? Math.min(9, twin.rough[t] + 2) : twin.rough[t];
                ways = ways.multiply(BigInteger.valueOf(rains ? c : 10 - c));
            }
            above = endOn(twin, rider) < 8 ? above.add(ways) : above;
        }
        BigInteger below = BigInteger.TEN.pow(10);
        BigInteger both = above.gcd(below);
        return (what == 0 ? above : below).divide(both).longValue();
    }

    int image() {
        image = s.twinWithPasts();
        return 1;
    }

    int restore() {
        if (image == null) {
            return -4;
        }
        s = image.twinWithPasts();
        return 1;
    }

    // ---- 3

    private static final Class<?>[] LANES = {byte[].class, short[].class, int[].class, long[].class};

    private static boolean badSheet(int sheet, int lane) {
        return out(sheet, 0, 3) || out(lane, 0, 3);
    }

    /** What the machine would find; 0: nothing. */
    private int found(int sheet, int lane, int i, int n) {
        try {
            Object row = LANES[lane].cast(sheets[sheet]);
            int items = Array.getLength(row);
            java.util.Objects.checkFromIndexSize(i, n, items);
            return 0;
        } catch (NullPointerException e) {
            return -11;
        } catch (ClassCastException e) {
            return -12;
        } catch (IndexOutOfBoundsException e) {
            return -13;
        }
    }

    private void put(int sheet, int i, long v) {
        Object row = sheets[sheet];
        if (row instanceof byte[] b) {
            b[i] = (byte) v;
        } else if (row instanceof short[] h) {
            h[i] = (short) v;
        } else if (row instanceof int[] n) {
            n[i] = (int) v;
        } else if (row instanceof long[] l) {
            l[i] = v;
        }
    }

    int clocked(int rider, int turn, int sheet, int lane, int i, int n, int what) {
        if (noRider(rider) || out(turn, 0, 9) || badSheet(sheet, lane) || out(n, 1, 10) || turn + n > 10
                || out(what, 0, 1)) {
            return -1;
        }
        if (found(sheet, lane, i, n) != 0) {
            return found(sheet, lane, i, n);
        }
        int set = 0;
        for (int v = what; v < (what == 0 ? 5 : 21); v++) {
            State twin = s.twin();
            if (what == 0) {
                twin.riders.get(rider).kind = v;
            } else {
                twin.riders.get(rider).heavy = v;
            }
            List<Integer> speeds = speedsOn(twin, rider);
            boolean so = true;
            for (int k = 0; k < n; k++) {
                so = so && Array.getLong(sheets[sheet], i + k) == speeds.get(turn + k);
            }
            set |= so ? 1 << v : 0;
        }
        return set;
    }

    int film(int rider, int n, int sheet, int lane, int i) {
        if (noRider(rider) || out(n, 1, 10) || badSheet(sheet, lane)) {
            return -1;
        }
        if (found(sheet, lane, i, n) != 0) {
            return found(sheet, lane, i, n);
        }
        for (int t = 0; t < n; t++) {
            put(sheet, i + t, speedsOn(s, rider).get(t));
        }
        return n;
    }

    int sheet(int sheet, int lane, int n) {
        if (badSheet(sheet, lane) || n > 24) {
            return -1;
        }
        try {
            sheets[sheet] = Array.newInstance(LANES[lane].getComponentType(), n);
            return n;
        } catch (NegativeArraySizeException e) {
            return -14;
        }
    }

    int drop(int sheet) {
        if (out(sheet, 0, 3)) {
            return -1;
        }
        if (sheets[sheet] == null) {
            return -11;
        }
        int items = Array.getLength(sheets[sheet]);
        sheets[sheet] = null;
        return items;
    }

    int item(int sheet, int lane, int i, long v) {
        if (badSheet(sheet, lane)) {
            return -1;
        }
        if (found(sheet, lane, i, 1) != 0) {
            return found(sheet, lane, i, 1);
        }
        put(sheet, i, v);
        return 1;
    }

    int copy(int from, int i, int to, int j, int n) {
        if (out(from, 0, 3) || out(to, 0, 3)) {
            return -1;
        }
        try {
            System.arraycopy(sheets[from], i, sheets[to], j, n);
            return n;
        } catch (NullPointerException e) {
            return -11;
        } catch (ArrayStoreException e) {
            return -12;
        } catch (IndexOutOfBoundsException e) {
            return -13;
        }
    }
}
