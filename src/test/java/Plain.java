import java.util.ArrayList;
import java.util.Arrays;
import java.util.List;
import java.util.TreeSet;

/**
 * The document told once more, as plainly and slowly as it can be, with sets and trials of
 * everything. AgreeTest asks it and KeyInn the same.
 */
final class Plain {
    static final class Fault extends RuntimeException {
        private static final long serialVersionUID = 1L;
        final int number;
        final int place;

        Fault(int number, int place) {
            super(null, null, false, false);
            this.number = number;
            this.place = place;
        }
    }

    static final class State {
        int rooms;
        int nights;
        int lines;
        List<TreeSet<Integer>> told = new ArrayList<>();
        List<TreeSet<Integer>> opens = new ArrayList<>();
        List<int[]> doors = new ArrayList<>();
        /** from, to, luggage, room, key */
        List<int[]> guests = new ArrayList<>();
        List<TreeSet<Integer>> trust = new ArrayList<>();
        List<TreeSet<Integer>> wants = new ArrayList<>();
        TreeSet<Integer> lost = new TreeSet<>();
        List<int[]> thefts = new ArrayList<>();
        TreeSet<Integer> away = new TreeSet<>();

        State copy() {
            State c = new State();
            c.rooms = rooms;
            c.nights = nights;
            c.lines = lines;
            for (TreeSet<Integer> k : told) {
                c.told.add(new TreeSet<>(k));
            }
            for (TreeSet<Integer> k : opens) {
                c.opens.add(new TreeSet<>(k));
            }
            for (int[] d : doors) {
                c.doors.add(d.clone());
            }
            for (int[] g : guests) {
                c.guests.add(g.clone());
            }
            for (TreeSet<Integer> t : trust) {
                c.trust.add(new TreeSet<>(t));
            }
            for (TreeSet<Integer> w : wants) {
                c.wants.add(new TreeSet<>(w));
            }
            c.lost.addAll(lost);
            for (int[] t : thefts) {
                c.thefts.add(t.clone());
            }
            c.away.addAll(away);
            return c;
        }
    }

    private final StringBuilder tape = new StringBuilder();
    private int fault;
    private int place = -1;
    private State s = new State();
    private final State[] images = new State[3];
    private final long[][] rows = new long[4][];
    private final int[] widths = new int[4];

    // ---- the text ----

    public int feed(int a, int b, int c, int d, int e) {
        if (tape.length() > 1580) {
            return -1;
        }
        for (int n : new int[] {a, b, c, d, e}) {
            tape.append((char) (n >>> 24)).append((char) (n >>> 16 & 255));
            tape.append((char) (n >>> 8 & 255)).append((char) (n & 255));
        }
        return tape.length();
    }

    public int end(int n) {
        if (n < 0 || n > tape.length()) {
            return -1;
        }
        tape.setLength(n);
        return n;
    }

    public int inn() {
        String text = tape.toString();
        fault = 0;
        place = -1;
        tape.setLength(0);
        try {
            s = parse(text);
            return s.lines;
        } catch (Fault f) {
            fault = f.number;
            place = f.place;
            return -4;
        }
    }

    private List<String> tokens;
    private List<Integer> places;
    private int at;
    private State p;

    private State parse(String text) {
        tokens = new ArrayList<>();
        places = new ArrayList<>();
        java.util.regex.Matcher m = java.util.regex.Pattern
                .compile("[a-z]+|[0-9]+|[^ \n]", java.util.regex.Pattern.DOTALL).matcher(text);
        while (m.find()) {
            tokens.add(m.group());
            places.add(m.start());
        }
        tokens.add("");
        places.add(text.length());
        at = 0;
        p = new State();
        TreeSet<Integer> choosy = new TreeSet<>();
        while (!tokens.get(at).isEmpty()) {
            String head = tokens.get(at);
            if (p.lines == 0 ? !head.equals("inn") : !List.of("key", "door", "guest", "trust", "wants").contains(head)) {
                throw new Fault(1, places.get(at));
            }
            if (head.equals("key") && p.told.size() == 12 || head.equals("door") && p.doors.size() == 8
                    || head.equals("guest") && p.guests.size() == 9) {
                throw new Fault(3, places.get(at));
            }
            at++;
            parseTail(head, choosy);
            word(";");
            p.lines++;
        }
        for (TreeSet<Integer> k : p.told) {
            p.opens.add(new TreeSet<>(k));
        }
        return p;
    }

    private void parseTail(String head, TreeSet<Integer> choosy) {
        if (head.equals("inn")) {
            word("rooms");
            p.rooms = number(2, 10, new TreeSet<>());
            word("nights");
            p.nights = number(1, 20, new TreeSet<>());
        } else if (head.equals("key")) {
            TreeSet<Integer> opened = new TreeSet<>();
            opened.add(number(0, p.rooms - 1, opened));
            opened.add(number(0, p.rooms - 1, opened));
            if (tokens.get(at).matches("[0-9]+")) {
                opened.add(number(0, p.rooms - 1, opened));
            }
            p.told.add(opened);
        } else if (head.equals("door")) {
            int a = number(0, p.rooms - 1, new TreeSet<>());
            word("to");
            int b = number(0, p.rooms - 1, new TreeSet<>(List.of(a)));
            p.doors.add(new int[] {a, b});
        } else if (head.equals("guest")) {
            word("from");
            int from = number(0, p.nights - 1, new TreeSet<>());
            word("to");
            int to = number(from, p.nights - 1, new TreeSet<>());
            word("luggage");
            int luggage = number(0, 99, new TreeSet<>());
            p.guests.add(new int[] {from, to, luggage, -1, -1});
            p.trust.add(new TreeSet<>());
            TreeSet<Integer> allRooms = new TreeSet<>();
            for (int r = 0; r < p.rooms; r++) {
                allRooms.add(r);
            }
            p.wants.add(allRooms);
        } else if (head.equals("trust")) {
            int g = number(0, p.guests.size() - 1, new TreeSet<>());
            do {
                p.trust.get(g).add(number(0, p.guests.size() - 1, new TreeSet<>(List.of(g))));
            } while (tokens.get(at).matches("[0-9]+"));
        } else {
            int g = number(0, p.guests.size() - 1, new TreeSet<>());
            if (choosy.add(g)) {
                p.wants.get(g).clear();
            }
            do {
                p.wants.get(g).add(number(0, p.rooms - 1, new TreeSet<>()));
            } while (tokens.get(at).matches("[0-9]+"));
        }
    }

    private void word(String w) {
        if (!tokens.get(at).equals(w)) {
            throw new Fault(1, places.get(at));
        }
        at++;
    }

    private int number(int low, int high, TreeSet<Integer> taken) {
        String t = tokens.get(at);
        if (!t.matches("[0-9]+")) {
            throw new Fault(1, places.get(at));
        }
        java.math.BigInteger v = new java.math.BigInteger(t);
        if (v.bitLength() > 30 || v.intValue() < low || v.intValue() > high || taken.contains(v.intValue())) {
            throw new Fault(2, places.get(at));
        }
        at++;
        return v.intValue();
    }

    public int fault(int what) {
        return what == 0 ? fault : what == 1 ? place : -1;
    }

    // ---- small words ----

    private boolean none() {
        return s.rooms == 0;
    }

    private boolean room(int r) {
        return r >= 0 && r < s.rooms;
    }

    private boolean night(int n) {
        return n >= 0 && n < s.nights;
    }

    private boolean isKey(int k) {
        return k >= 0 && k < s.told.size();
    }

    private boolean isGuest(int g) {
        return g >= 0 && g < s.guests.size();
    }

    private static int bits(Iterable<Integer> set) {
        int b = 0;
        for (int i : set) {
            b |= 1 << i;
        }
        return b;
    }

    private static TreeSet<Integer> set(int bits) {
        TreeSet<Integer> set = new TreeSet<>();
        for (int i = 0; i < 32; i++) {
            if ((bits >>> i & 1) == 1) {
                set.add(i);
            }
        }
        return set;
    }

    private static TreeSet<Integer> span(State w, Iterable<Integer> keys) {
        TreeSet<Integer> rooms = new TreeSet<>();
        for (int k : keys) {
            rooms.addAll(w.opens.get(k));
        }
        boolean more = true;
        while (more) {
            more = false;
            for (int[] d : w.doors) {
                if (rooms.contains(d[0]) && rooms.add(d[1])) {
                    more = true;
                }
                if (rooms.contains(d[1]) && rooms.add(d[0])) {
                    more = true;
                }
            }
        }
        return rooms;
    }

    private static boolean sleeps(State w, int g, int n) {
        int[] a = w.guests.get(g);
        return a[3] >= 0 && a[0] <= n && n <= a[1];
    }

    private static TreeSet<Integer> feared(State w, int g, int n) {
        TreeSet<Integer> f = new TreeSet<>();
        for (int h = 0; h < w.guests.size(); h++) {
            if (h != g && sleeps(w, g, n) && sleeps(w, h, n) && !w.trust.get(g).contains(h)
                    && span(w, List.of(w.guests.get(h)[4])).contains(w.guests.get(g)[3])) {
                f.add(h);
            }
        }
        return f;
    }

    private static int pairs(State w, int n) {
        int c = 0;
        for (int g = 0; g < w.guests.size(); g++) {
            c += feared(w, g, n).size();
        }
        return c;
    }

    private static boolean can(State w, int g, int r, int k) {
        int[] a = w.guests.get(g);
        if (!w.wants.get(g).contains(r) || !w.opens.get(k).contains(r) || w.lost.contains(k)) {
            return false;
        }
        for (int n = a[0]; n <= a[1]; n++) {
            for (int h = 0; h < w.guests.size(); h++) {
                int[] b = w.guests.get(h);
                if (h != g && sleeps(w, h, n) && (b[3] == r || b[4] == k)) {
                    return false;
                }
            }
        }
        return true;
    }

    private static void put(State w, int g, int r, int k) {
        w.guests.get(g)[3] = r;
        w.guests.get(g)[4] = k;
    }

    private static List<Integer> quiet(State w, int g) {
        List<Integer> ways = new ArrayList<>();
        for (int way = 0; way < 1000; way++) {
            int r = way / 100;
            int k = way % 100;
            if (r < w.rooms && k < w.told.size() && can(w, g, r, k)) {
                State c = w.copy();
                put(c, g, r, k);
                boolean fine = true;
                for (int n = 0; n < w.nights; n++) {
                    fine &= pairs(c, n) <= pairs(w, n);
                }
                if (fine) {
                    ways.add(way);
                }
            }
        }
        return ways;
    }

    // ---- keys, guests, bookings ----

    public int key(int key, int what) {
        if (!isKey(key)) {
            return -2;
        }
        if (what == 0) {
            return bits(s.opens.get(key));
        }
        if (what == 1) {
            return s.lost.contains(key) ? 1 : 0;
        }
        if (what < 10 || !night(what - 10)) {
            return -2;
        }
        for (int g = 0; g < s.guests.size(); g++) {
            if (sleeps(s, g, what - 10) && s.guests.get(g)[4] == key) {
                return g;
            }
        }
        return -1;
    }

    public int reach(int keys) {
        if (none() || keys < 0 || keys >= 1 << s.told.size()) {
            return -2;
        }
        return bits(span(s, set(keys)));
    }

    public int steps(int keys, int room) {
        if (none() || keys < 0 || keys >= 1 << s.told.size() || !room(room)) {
            return -2;
        }
        int[] far = new int[s.rooms];
        Arrays.fill(far, 99);
        for (int k : set(keys)) {
            for (int r : s.opens.get(k)) {
                far[r] = 1;
            }
        }
        for (int i = 0; i < 20; i++) {
            for (int[] d : s.doors) {
                far[d[0]] = Math.min(far[d[0]], far[d[1]] + 1);
                far[d[1]] = Math.min(far[d[1]], far[d[0]] + 1);
            }
        }
        return far[room] >= 99 ? -1 : far[room];
    }

    public int trusts(int guest, int other) {
        if (!isGuest(guest) || !isGuest(other) || guest == other) {
            return -2;
        }
        return s.trust.get(guest).contains(other) ? 1 : 0;
    }

    public int guest(int guest, int what) {
        if (!isGuest(guest) || what < 0 || what > 5) {
            return -2;
        }
        int[] a = s.guests.get(guest);
        return new int[] {a[3], a[4], a[0], a[1], a[2], bits(s.wants.get(guest))}[what];
    }

    public int book(int guest, int room, int key) {
        if (!isGuest(guest) || !room(room) || !isKey(key)) {
            return -2;
        }
        if (s.guests.get(guest)[3] >= 0) {
            return -3;
        }
        if (!can(s, guest, room, key)) {
            return -5;
        }
        put(s, guest, room, key);
        return 0;
    }

    public int off(int guest) {
        if (!isGuest(guest)) {
            return -2;
        }
        int[] a = s.guests.get(guest);
        if (a[3] < 0) {
            return -1;
        }
        int had = a[3] * 100 + a[4];
        put(s, guest, -1, -1);
        return had;
    }

    public int comes(int guest, int night) {
        if (!isGuest(guest) || !night(night)) {
            return -2;
        }
        return sleeps(s, guest, night) ? bits(span(s, List.of(s.guests.get(guest)[4]))) : 0;
    }

    public int fears(int guest, int night) {
        return !isGuest(guest) || !night(night) ? -2 : bits(feared(s, guest, night));
    }

    public int unsafe(int night, int what) {
        if (!night(night) || what < 0 || what > 2) {
            return -2;
        }
        int who = 0;
        int first = -1;
        for (int g = s.guests.size() - 1; g >= 0; g--) {
            TreeSet<Integer> f = feared(s, g, night);
            if (!f.isEmpty()) {
                who++;
                first = 10 * g + f.first();
            }
        }
        return what == 0 ? who : what == 1 ? pairs(s, night) : first;
    }

    public int risk(int night) {
        if (!night(night)) {
            return -2;
        }
        int sum = 0;
        TreeSet<Integer> open = span(s, s.lost);
        for (int g = 0; g < s.guests.size(); g++) {
            if (!feared(s, g, night).isEmpty() || sleeps(s, g, night) && open.contains(s.guests.get(g)[3])) {
                sum += s.guests.get(g)[2];
            }
        }
        return sum;
    }

    public int fits(int guest) {
        if (!isGuest(guest)) {
            return -2;
        }
        return s.guests.get(guest)[3] >= 0 ? -3 : quiet(s, guest).size();
    }

    public int first(int guest) {
        int n = fits(guest);
        return n < 0 ? n : n == 0 ? -1 : quiet(s, guest).get(0);
    }

    private int[] kindest(int guest) {
        int[] best = {-1, -1};
        for (int way : quiet(s, guest)) {
            State c = s.copy();
            put(c, guest, way / 100, way % 100);
            int others = 0;
            for (int g = 0; g < s.guests.size(); g++) {
                if (g != guest && c.guests.get(g)[3] < 0 && !quiet(c, g).isEmpty()) {
                    others++;
                }
            }
            if (others > best[1]) {
                best = new int[] {way, others};
            }
        }
        return best;
    }

    public int give(int guest) {
        int n = fits(guest);
        return n < 0 ? n : kindest(guest)[0];
    }

    public int still(int guest) {
        int n = fits(guest);
        return n < 0 ? n : kindest(guest)[1];
    }

    // ---- housed ----

    private List<Integer> there(int night) {
        List<Integer> list = new ArrayList<>();
        for (int g = 0; g < s.guests.size(); g++) {
            if (s.guests.get(g)[0] <= night && night <= s.guests.get(g)[1]) {
                list.add(g);
            }
        }
        return list;
    }

    /** Of all ways: most housed, ways with all, and the first way of most. */
    private int mostHoused;
    private int allHoused;
    private int[] firstHoused;

    private void house(int night, int without) {
        mostHoused = -1;
        allHoused = 0;
        firstHoused = null;
        List<Integer> g = there(night);
        house(g, new int[g.size()], 0, without);
    }

    private void house(List<Integer> g, int[] way, int i, int without) {
        if (i == g.size()) {
            int housed = 0;
            for (int w : way) {
                housed += w >= 0 ? 1 : 0;
            }
            if (housed > mostHoused) {
                mostHoused = housed;
                firstHoused = way.clone();
            }
            allHoused += housed == g.size() ? 1 : 0;
            return;
        }
        for (int r = 0; r < s.rooms; r++) {
            for (int k = 0; k < s.told.size(); k++) {
                if (k != without && !s.lost.contains(k) && s.opens.get(k).contains(r)
                        && s.wants.get(g.get(i)).contains(r) && agrees(g, way, i, r, k)) {
                    way[i] = 100 * r + k;
                    house(g, way, i + 1, without);
                }
            }
        }
        way[i] = -1;
        house(g, way, i + 1, without);
    }

    private boolean agrees(List<Integer> g, int[] way, int i, int r, int k) {
        for (int j = 0; j < i; j++) {
            if (way[j] >= 0) {
                int r2 = way[j] / 100;
                int k2 = way[j] % 100;
                if (r == r2 || k == k2
                        || span(s, List.of(k)).contains(r2) && !s.trust.get(g.get(j)).contains(g.get(i))
                        || span(s, List.of(k2)).contains(r) && !s.trust.get(g.get(i)).contains(g.get(j))) {
                    return false;
                }
            }
        }
        return true;
    }

    public int most(int night) {
        if (!night(night)) {
            return -2;
        }
        if (there(night).size() > 4) {
            return -3;
        }
        house(night, -1);
        return mostHoused;
    }

    public int ways(int night) {
        int n = most(night);
        return n < 0 ? n : allHoused;
    }

    public int lay(int night, int guest) {
        if (!night(night) || !there(night).contains(guest)) {
            return -2;
        }
        int n = most(night);
        return n < 0 ? n : firstHoused[there(night).indexOf(guest)];
    }

    public int spare(int night) {
        if (!night(night)) {
            return -2;
        }
        if (there(night).size() > 4) {
            return -3;
        }
        int best = -1;
        int most = -1;
        for (int k = 0; k < s.told.size(); k++) {
            house(night, k);
            if (mostHoused > most) {
                most = mostHoused;
                best = k;
            }
        }
        return best;
    }

    // ---- rings made anew ----

    private List<int[]> circles(int night) {
        List<int[]> all = new ArrayList<>();
        List<Integer> g = there(night);
        circles(g, new int[g.size()], 0, all);
        return all;
    }

    private void circles(List<Integer> g, int[] next, int i, List<int[]> all) {
        if (i == g.size()) {
            all.add(next.clone());
            return;
        }
        for (int j = 0; j < g.size(); j++) {
            boolean free = j != i && s.trust.get(g.get(j)).contains(g.get(i));
            for (int h = 0; h < i; h++) {
                free &= next[h] != j;
            }
            if (free) {
                next[i] = j;
                circles(g, next, i + 1, all);
            }
        }
    }

    private static int cycles(int[] next) {
        int c = 0;
        for (int i = 0; i < next.length; i++) {
            int least = i;
            for (int j = next[i]; j != i; j = next[j]) {
                least = Math.min(least, j);
            }
            c += least == i ? 1 : 0;
        }
        return c;
    }

    public int full(int night) {
        if (!night(night)) {
            return -2;
        }
        int n = there(night).size();
        return n < 2 || n > 7 ? -3 : circles(night).size();
    }

    public int rings(int night, int what) {
        if (!night(night) || what < 0 || what > 1) {
            return -2;
        }
        int n = full(night);
        if (n <= 0) {
            return n == 0 ? -1 : n;
        }
        int best = -1;
        for (int[] c : circles(night)) {
            int k = cycles(c);
            best = best < 0 ? k : what == 0 ? Math.min(best, k) : Math.max(best, k);
        }
        return best;
    }

    public int next(int night, int guest) {
        if (!night(night) || !there(night).contains(guest)) {
            return -2;
        }
        int n = full(night);
        if (n <= 0) {
            return n == 0 ? -1 : n;
        }
        List<Integer> g = there(night);
        return g.get(circles(night).get(0)[g.indexOf(guest)]);
    }

    // ---- lost keys ----

    public int lose(int key, boolean is) {
        if (!isKey(key)) {
            return -2;
        }
        return (is ? s.lost.add(key) : s.lost.remove(key)) ? 0 : -5;
    }

    public int open() {
        return none() ? -2 : bits(span(s, s.lost));
    }

    private static TreeSet<Integer> bared(State w, int n) {
        TreeSet<Integer> open = span(w, w.lost);
        TreeSet<Integer> b = new TreeSet<>();
        for (int g = 0; g < w.guests.size(); g++) {
            if (sleeps(w, g, n) && open.contains(w.guests.get(g)[3])) {
                b.add(g);
            }
        }
        return b;
    }

    public int bare(int night) {
        return night(night) ? bits(bared(s, night)) : -2;
    }

    public int harm(int key, int night) {
        if (!isKey(key) || !night(night)) {
            return -2;
        }
        State c = s.copy();
        c.lost.add(key);
        return bared(c, night).size();
    }

    public int worst(int night) {
        if (!night(night)) {
            return -2;
        }
        int best = -1;
        for (int k = 0; k < s.told.size(); k++) {
            if (best < 0 || harm(k, night) > harm(best, night)) {
                best = k;
            }
        }
        return best;
    }

    private static int changed(State w, int r) {
        int c = 0;
        for (int k : w.lost) {
            c += w.opens.get(k).remove(r) ? 1 : 0;
        }
        return c;
    }

    public int change(int room) {
        return room(room) ? changed(s, room) : -2;
    }

    /** The least of the fewest among sets that a trial calls good; -1 without. */
    private interface Trial {
        boolean good(int set);
    }

    private static int least(int n, int what, Trial trial) {
        for (int size = 0; size <= n; size++) {
            for (int set = 0; set < 1 << n; set++) {
                if (Integer.bitCount(set) == size && trial.good(set)) {
                    return what == 0 ? size : set;
                }
            }
        }
        return -1;
    }

    public int fewest(int night, int what) {
        if (!night(night) || what < 0 || what > 1) {
            return -2;
        }
        return least(s.rooms, what, set -> {
            State c = s.copy();
            for (int r : set(set)) {
                changed(c, r);
            }
            return bared(c, night).isEmpty();
        });
    }

    // ---- thefts ----

    public int theft(int room, int night) {
        if (!room(room) || !night(night)) {
            return -2;
        }
        if (s.thefts.size() == 20) {
            return -3;
        }
        s.thefts.add(new int[] {room, night});
        return s.thefts.size();
    }

    public int away(int guest, int night) {
        if (!isGuest(guest) || !night(night)) {
            return -2;
        }
        return s.away.add(100 * guest + night) ? 0 : -5;
    }

    public int could(int i) {
        if (i < 0 || i >= s.thefts.size()) {
            return -2;
        }
        int r = s.thefts.get(i)[0];
        int n = s.thefts.get(i)[1];
        int who = 0;
        for (int g = 0; g < s.guests.size(); g++) {
            if (sleeps(s, g, n) && !s.away.contains(100 * g + n) && s.guests.get(g)[3] != r
                    && span(s, List.of(s.guests.get(g)[4])).contains(r)) {
                who |= 1 << g;
            }
        }
        return who;
    }

    public int all() {
        if (none()) {
            return -2;
        }
        int who = (1 << s.guests.size()) - 1;
        for (int i = 0; i < s.thefts.size(); i++) {
            who &= could(i);
        }
        return who;
    }

    public int gang(int what) {
        if (none() || what < 0 || what > 1) {
            return -2;
        }
        return least(s.guests.size(), what, set -> {
            for (int i = 0; i < s.thefts.size(); i++) {
                if ((could(i) & set) == 0) {
                    return false;
                }
            }
            return true;
        });
    }

    // ---- cleaner, rings told ----

    public int round(int what) {
        return rounds((1 << s.rooms) - 1, what);
    }

    public int rounds(int rooms, int what) {
        if (none() || what < 0 || what > 1 || rooms < 0 || rooms >= 1 << s.rooms) {
            return -2;
        }
        return least(s.told.size(), what, set -> {
            TreeSet<Integer> keys = set(set);
            for (int k : keys) {
                if (s.lost.contains(k)) {
                    return false;
                }
            }
            return span(s, keys).containsAll(set(rooms));
        });
    }

    /** Tries every set of keys: as many rooms, two of these keys to each, none other, in one piece. */
    public int loops() {
        if (none()) {
            return -2;
        }
        int n = 0;
        for (int set = 1; set < 1 << s.told.size(); set++) {
            n += isRing(set(set)) ? 1 : 0;
        }
        return n;
    }

    private boolean isRing(TreeSet<Integer> keys) {
        TreeSet<Integer> rooms = new TreeSet<>();
        for (int k : keys) {
            if (s.lost.contains(k) || s.told.get(k).size() != 2) {
                return false;
            }
            rooms.addAll(s.told.get(k));
        }
        for (int r : rooms) {
            int openers = 0;
            for (int k = 0; k < s.told.size(); k++) {
                if (!s.lost.contains(k) && s.told.get(k).contains(r)) {
                    openers += keys.contains(k) ? 1 : 99;
                }
            }
            if (openers != 2) {
                return false;
            }
        }
        return keys.size() >= 2 && walk(keys, rooms);
    }

    /** Goes from the first key round by rooms: whether all keys are met on the way. */
    private boolean walk(TreeSet<Integer> keys, TreeSet<Integer> rooms) {
        TreeSet<Integer> left = new TreeSet<>(keys);
        int k = left.pollFirst();
        int r = s.told.get(k).first();
        boolean on = true;
        while (on) {
            on = false;
            for (int h : left) {
                if (s.told.get(h).contains(r)) {
                    left.remove(h);
                    r = s.told.get(h).first() == r ? s.told.get(h).last() : s.told.get(h).first();
                    on = true;
                    break;
                }
            }
        }
        return left.isEmpty();
    }

    // ---- safer nights ----

    public int leave(int night, int what) {
        if (!night(night) || what < 0 || what > 1) {
            return -2;
        }
        return least(s.guests.size(), what, set -> {
            State c = s.copy();
            for (int g : set(set)) {
                put(c, g, -1, -1);
            }
            return pairs(c, night) == 0;
        });
    }

    public int shut(int night, int what) {
        if (!night(night) || what < 0 || what > 1) {
            return -2;
        }
        int best = -1;
        int fewest = -1;
        for (int d = 0; d < s.doors.size(); d++) {
            State c = s.copy();
            c.doors.remove(d);
            int n = pairs(c, night);
            if (best < 0 || n < fewest) {
                best = d;
                fewest = n;
            }
        }
        return what == 0 ? best : fewest;
    }

    public int swap(int one, int other, int night) {
        if (!isGuest(one) || !isGuest(other) || one == other || !night(night)) {
            return -2;
        }
        int[] a = s.guests.get(one);
        int[] b = s.guests.get(other);
        if (a[3] < 0 || b[3] < 0 || a[0] != b[0] || a[1] != b[1]) {
            return -3;
        }
        if (!s.wants.get(one).contains(b[3]) || !s.wants.get(other).contains(a[3])) {
            return -5;
        }
        State c = s.copy();
        put(c, one, b[3], b[4]);
        put(c, other, a[3], a[4]);
        return pairs(c, night);
    }

    public int visitors(int room, int night) {
        if (!room(room) || !night(night)) {
            return -2;
        }
        int who = 0;
        for (int g = 0; g < s.guests.size(); g++) {
            who |= (comes(g, night) >> room & 1) << g;
        }
        return who;
    }

    public int calm() {
        if (none()) {
            return -2;
        }
        int best = 0;
        for (int a = 0; a < s.nights; a++) {
            for (int b = a; b < s.nights && pairs(s, b) == 0 && bared(s, b).isEmpty(); b++) {
                best = Math.max(best, b - a + 1);
            }
        }
        return best;
    }

    // ---- in thought ----

    private int judged;

    private State thought(int slot) {
        State c = s.copy();
        judged = 0;
        for (long v : rows[slot]) {
            if (v < 0 || v > 99999) {
                break;
            }
            int g = (int) v / 10000;
            int r = (int) v / 100 % 100;
            int k = (int) v % 100;
            if (!isGuest(g) || !room(r) || !isKey(k) || c.guests.get(g)[3] >= 0 || !can(c, g, r, k)) {
                break;
            }
            put(c, g, r, k);
            judged++;
        }
        return c;
    }

    public int judge(int slot) {
        if (slot < 0 || slot > 3 || none()) {
            return -2;
        }
        if (rows[slot] == null) {
            return -6;
        }
        thought(slot);
        return judged;
    }

    public int then(int slot, int night) {
        if (slot < 0 || slot > 3 || !night(night)) {
            return -2;
        }
        return rows[slot] == null ? -6 : pairs(thought(slot), night);
    }

    public int season(int seed) {
        if (none() || seed < 0 || seed > 2000000000) {
            return -2;
        }
        State c = s.copy();
        java.math.BigInteger x = java.math.BigInteger.valueOf(seed);
        int booked = 0;
        for (int g = 0; g < c.guests.size(); g++) {
            if (c.guests.get(g)[3] < 0) {
                List<Integer> ways = quiet(c, g);
                if (!ways.isEmpty()) {
                    x = x.multiply(java.math.BigInteger.valueOf(1103515245)).add(java.math.BigInteger.valueOf(12345))
                            .mod(java.math.BigInteger.ONE.shiftLeft(31));
                    int way = ways.get(x.shiftRight(16).intValue() % ways.size());
                    put(c, g, way / 100, way % 100);
                }
            }
            booked += c.guests.get(g)[3] >= 0 ? 1 : 0;
        }
        return booked;
    }

    public int seasons(int seed, int n, int what) {
        if (none() || seed < 0 || n < 1 || n > 20 || what < 0 || what > 2 || seed + (n - 1L) > 2000000000L) {
            return -2;
        }
        List<Integer> all = new ArrayList<>();
        int sum = 0;
        for (int i = 0; i < n; i++) {
            all.add(season(seed + i));
            sum += season(seed + i);
        }
        return what == 0 ? sum : what == 1 ? java.util.Collections.max(all) : java.util.Collections.min(all);
    }

    // ---- counts, images, rows ----

    public int count(int what) {
        int booked = 0;
        for (int g = 0; g < s.guests.size(); g++) {
            booked |= s.guests.get(g)[3] >= 0 ? 1 << g : 0;
        }
        int filled = 0;
        for (long[] r : rows) {
            filled += r != null ? 1 : 0;
        }
        int[] all = {s.rooms, s.nights, s.told.size(), s.doors.size(), s.guests.size(), s.lines, tape.length(),
            booked, bits(s.lost), s.thefts.size(), filled};
        return what < 0 || what > 10 ? -1 : all[what];
    }

    public int keep(int k) {
        if (k < 0 || k > 2) {
            return -2;
        }
        images[k] = s.copy();
        return 0;
    }

    public int back(int k) {
        if (k < 0 || k > 2) {
            return -2;
        }
        if (images[k] == null) {
            return -6;
        }
        s = images[k].copy();
        return 0;
    }

    public int row(int slot, int width, int n) {
        if (slot < 0 || slot > 3 || width < 0 || width > 3 || n > 60) {
            return -2;
        }
        if (n < 0) {
            return -3;
        }
        rows[slot] = new long[n];
        widths[slot] = width;
        return 0;
    }

    public int write(int slot, int i, long v) {
        if (slot < 0 || slot > 3) {
            return -2;
        }
        if (rows[slot] == null) {
            return -6;
        }
        if (i < 0 || i >= rows[slot].length) {
            return -7;
        }
        int cut = 64 - (8 << widths[slot]);
        rows[slot][i] = v << cut >> cut;
        return 0;
    }

    public int paste(int slot, int i, int to, int k, int n) {
        if (slot < 0 || slot > 3 || to < 0 || to > 3) {
            return -2;
        }
        if (rows[slot] == null || rows[to] == null) {
            return -6;
        }
        if (widths[slot] != widths[to]) {
            return -8;
        }
        if (i < 0 || k < 0 || n < 0 || (long) i + n > rows[slot].length || (long) k + n > rows[to].length) {
            return -7;
        }
        long[] some = Arrays.copyOfRange(rows[slot], i, i + n);
        System.arraycopy(some, 0, rows[to], k, n);
        return 0;
    }
}
