import java.util.ArrayList;
import java.util.List;
import java.util.TreeMap;
import java.util.regex.Matcher;
import java.util.regex.Pattern;

/**
 * The document told a second time, as naively as can be and with the Java library: nothing is kept that can
 * be found by looking, and each look ahead is at a copy of everything. ModelTest runs it beside the class.
 */
final class Model {
    static class Kind {
        int eats(Rumour r) { return r.bulk / 10 + 1; }
        int needs(Rumour r) { return 3; }
        int grows(Rumour r) { return 1; }
    }

    static class Big extends Kind {
        @Override int eats(Rumour r) { return 2 * super.eats(r); }
        @Override int needs(Rumour r) { return r.bulk < 20 ? 1 : super.needs(r); }
        @Override int grows(Rumour r) { return r.bulk / 10 + super.grows(r); }
    }

    static class Dull extends Kind {
        @Override int eats(Rumour r) { return 1; }
        @Override int needs(Rumour r) { return 2 * super.needs(r); }
        @Override int grows(Rumour r) { return 0; }
    }

    static class Shy extends Kind {
        @Override int eats(Rumour r) { return Math.max(0, super.eats(r) - r.age / 10); }
        @Override int needs(Rumour r) { return super.needs(r) + 1; }
        @Override int grows(Rumour r) { return r.age % 2 == 0 ? super.grows(r) : 0; }
    }

    static class Royal extends Big {
        @Override int eats(Rumour r) { return super.eats(r) + 3; }
        @Override int needs(Rumour r) { return super.needs(r) - 1; }
    }

    static class Wells extends Dull {
        @Override int eats(Rumour r) { return super.eats(r) - 1; }
        @Override int needs(Rumour r) { return super.needs(r) + 1; }
    }

    static final List<Kind> KINDS =
        List.of(new Kind(), new Big(), new Dull(), new Shy(), new Royal(), new Wells());
    static final List<String> NAMES = List.of("rumour", "big", "dull", "shy", "royal", "wells");

    static final class Rumour {
        int kind;
        int event;
        int bulk = 10;
        int age = 0;
        int house = -1;

        Rumour(int kind, int event) {
            this.kind = kind;
            this.event = event;
        }

        Rumour copied() {
            Rumour r = new Rumour(kind, event);
            r.bulk = bulk;
            r.age = age;
            r.house = house;
            return r;
        }

        int eats() { return KINDS.get(kind).eats(this); }
        int needs() { return KINDS.get(kind).needs(this); }
        int grows() { return KINDS.get(kind).grows(this); }
    }

    static final class State {
        int[][] houses = new int[8][];
        List<Rumour> all = new ArrayList<>();
        int day = 0;
        boolean[] isTrue = new boolean[16];

        State() {
            for (int h = 0; h < 8; h++) houses[h] = new int[] {1, 50, 3};
        }

        State copied() {
            State s = new State();
            for (int h = 0; h < 8; h++) s.houses[h] = houses[h].clone();
            for (Rumour r : all) s.all.add(r.copied());
            s.day = day;
            s.isTrue = isTrue.clone();
            return s;
        }

        List<Rumour> in(int h) {
            List<Rumour> those = new ArrayList<>();
            for (Rumour r : all) if (r.house == h) those.add(r);
            return those;
        }

        boolean takes(int h, Rumour r) {
            return in(h).size() < houses[h][0] && houses[h][2] >= r.needs();
        }

        int host(Rumour r) {
            if (isTrue[r.event]) return -1;
            for (int leans = 9; leans >= 0; leans--) {
                for (int h = 0; h < 8; h++) {
                    if (houses[h][2] == leans && takes(h, r)) return h;
                }
            }
            return -1;
        }

        void improve(Rumour r, int v) {
            r.bulk += v;
            if (r.bulk > 99) r.bulk = 99;
            int h = r.house;
            do {
                h = h == 7 ? 0 : h + 1;
            } while (h != r.house && !takes(h, r));
            r.house = h;
        }

        int comesTrue(int e) {
            int left = 0;
            for (Rumour r : all) {
                if (r.event == e && r.house >= 0) {
                    r.house = -1;
                    left++;
                }
            }
            isTrue[e] = true;
            return left;
        }

        void aDay() {
            for (Rumour r : all) {
                if (r.house < 0) continue;
                int eats = r.eats();
                if (houses[r.house][1] < eats) {
                    houses[r.house][1] = 0;
                    r.house = -1;
                } else {
                    houses[r.house][1] -= eats;
                    r.bulk = Math.min(99, r.bulk + r.grows());
                }
            }
            for (Rumour r : all) r.age = Math.min(999, r.age + 1);
            for (int h = 0; h < 8; h++) thirdIn(h);
            for (Rumour r : all) if (r.house < 0) r.house = host(r);
            day++;
        }

        private void thirdIn(int h) {
            TreeMap<Integer, List<Rumour>> byEvent = new TreeMap<>();
            for (Rumour r : in(h)) byEvent.computeIfAbsent(r.event, e -> new ArrayList<>()).add(r);
            for (int e : byEvent.keySet()) {
                List<Rumour> pair = byEvent.get(e);
                if (pair.size() < 2) continue;
                boolean onRoad = in(-1).stream().anyMatch(r -> r.event == e);
                if (!onRoad && all.size() < 10) {
                    Rumour third = new Rumour(0, e);
                    third.bulk = (pair.get(0).bulk + pair.get(1).bulk) / 2;
                    all.add(third);
                }
                return;
            }
        }

        State after(int n) {
            State s = copied();
            for (int i = 0; i < n; i++) s.aDay();
            return s;
        }

        int larders() {
            int sum = 0;
            for (int[] h : houses) sum += h[1];
            return sum;
        }
    }

    private State now = new State();
    private State kept = null;
    private StringBuilder tape = new StringBuilder();
    /** byte[], short[], long[] or null. */
    private final Object[] sheets = new Object[4];
    private final int[] found = new int[7];

    private int find(int finding) {
        found[-1000000001 - finding]++;
        return finding;
    }

    private boolean no(int v, int least, int most) {
        return v < least || v > most;
    }

    private boolean noRumour(int r) {
        return no(r, 0, now.all.size() - 1);
    }

    int house(int house, int what, int v) {
        if (no(house, 0, 7) || no(what, 0, 2) || no(v, 0, new int[] {3, 999, 9}[what])) return find(Due.BEYOND);
        int was = now.houses[house][what];
        now.houses[house][what] = v;
        return was;
    }

    int houseOf(int house, int what) {
        if (no(house, 0, 7) || no(what, 0, 5)) return find(Due.BEYOND);
        if (what < 3) return now.houses[house][what];
        int answer = 0;
        for (Rumour r : now.in(house)) {
            if (what == 3) answer |= 1 << now.all.indexOf(r);
            if (what == 4) answer |= 1 << r.event;
            if (what == 5) answer += r.eats();
        }
        return answer;
    }

    int rumour(int kind, int event) {
        if (no(kind, 0, 5) || no(event, 0, 15)) return find(Due.BEYOND);
        if (now.all.size() == 10) return find(Due.FULL);
        now.all.add(new Rumour(kind, event));
        return now.all.size() - 1;
    }

    int of(int rumour, int what) {
        if (noRumour(rumour) || no(what, 0, 7)) return find(Due.BEYOND);
        Rumour r = now.all.get(rumour);
        return new int[] {r.kind, r.event, r.bulk, r.age, r.house, r.eats(), r.needs(), r.grows()}[what];
    }

    int set(int rumour, int what, int v) {
        if (noRumour(rumour) || no(what, 1, 3) || no(v, 0, new int[] {0, 15, 99, 999}[what])) return find(Due.BEYOND);
        Rumour r = now.all.get(rumour);
        int was = of(rumour, what);
        if (what == 1) r.event = v;
        if (what == 2) r.bulk = v;
        if (what == 3) r.age = v;
        return was;
    }

    int turn(int rumour, int kind) {
        if (noRumour(rumour) || no(kind, 0, 5)) return find(Due.BEYOND);
        int was = now.all.get(rumour).kind;
        now.all.get(rumour).kind = kind;
        return was;
    }

    int as(int rumour, int kind) {
        if (noRumour(rumour) || no(kind, 0, 5)) return find(Due.BEYOND);
        Rumour r = now.all.get(rumour);
        return KINDS.get(kind).getClass().isInstance(KINDS.get(r.kind)) ? r.bulk : find(Due.KIND);
    }

    int takes(int house, int rumour) {
        if (no(house, 0, 7) || noRumour(rumour)) return find(Due.BEYOND);
        return now.takes(house, now.all.get(rumour)) ? 1 : 0;
    }

    int comeIn(int rumour) {
        if (noRumour(rumour)) return find(Due.BEYOND);
        Rumour r = now.all.get(rumour);
        if (r.house >= 0 || now.isTrue[r.event]) return find(Due.STATE);
        return r.house = now.host(r);
    }

    int improve(int rumour, int v) {
        if (noRumour(rumour) || no(v, 1, 20)) return find(Due.BEYOND);
        Rumour r = now.all.get(rumour);
        if (r.house < 0) return find(Due.STATE);
        now.improve(r, v);
        return r.house;
    }

    int comesTrue(int event) {
        return no(event, 0, 15) ? find(Due.BEYOND) : now.comesTrue(event);
    }

    int forget(int event) {
        if (no(event, 0, 15)) return find(Due.BEYOND);
        int was = now.isTrue[event] ? 1 : 0;
        now.isTrue[event] = false;
        return was;
    }

    int days(int n) {
        if (no(n, 1, 60)) return find(Due.BEYOND);
        if (now.day + n > 9999) return find(Due.STATE);
        now = now.after(n);
        return now.all.size();
    }

    int now(int what) {
        int answer = 0;
        switch (what) {
            case 0: return now.day;
            case 1:
                for (int e = 0; e < 16; e++) if (now.isTrue[e]) answer |= 1 << e;
                return answer;
            case 2:
                for (Rumour r : now.in(-1)) answer |= 1 << now.all.indexOf(r);
                return answer;
            case 3:
                for (Rumour r : now.all) answer += r.bulk;
                return answer;
            case 4: return now.larders();
            case 5:
                for (int h = 0; h < 8; h++) answer += Math.max(0, now.houses[h][0] - now.in(h).size());
                return answer;
            case 6:
                for (Rumour r : now.all) if (r.house >= 0) answer += r.eats();
                return answer;
            default: return find(Due.BEYOND);
        }
    }

    int on(int rumour, int n, int what) {
        if (noRumour(rumour) || no(n, 0, 60) || no(what, 0, 1)) return find(Due.BEYOND);
        Rumour r = now.after(n).all.get(rumour);
        return what == 0 ? r.house : r.bulk;
    }

    int larder(int house, int n) {
        if (no(house, 0, 7) || no(n, 0, 60)) return find(Due.BEYOND);
        return now.after(n).houses[house][1];
    }

    int empty(int house) {
        if (no(house, 0, 7)) return find(Due.BEYOND);
        for (int n = 0; n <= 60; n++) if (now.after(n).houses[house][1] == 0) return n;
        return find(Due.NONE);
    }

    int many(int n) {
        return no(n, 0, 60) ? find(Due.BEYOND) : now.after(n).all.size();
    }

    int out(int rumour) {
        if (noRumour(rumour)) return find(Due.BEYOND);
        for (int n = 0; n <= 60; n++) if (now.after(n).all.get(rumour).house < 0) return n;
        return find(Due.NONE);
    }

    int fewest(int rumour, int house) {
        if (noRumour(rumour) || no(house, 0, 7)) return find(Due.BEYOND);
        if (now.all.get(rumour).house < 0) return find(Due.STATE);
        for (int times = 0; times <= 40; times++) {
            State s = now.copied();
            for (int i = 0; i < times; i++) s.improve(s.all.get(rumour), 1);
            if (s.all.get(rumour).house == house) return times;
        }
        return find(Due.NONE);
    }

    int least(int rumour) {
        if (noRumour(rumour)) return find(Due.BEYOND);
        int was = now.all.get(rumour).house;
        if (was < 0) return find(Due.STATE);
        for (int v = 1; v <= 20; v++) {
            State s = now.copied();
            s.improve(s.all.get(rumour), v);
            if (s.all.get(rumour).house != was) return v;
        }
        return find(Due.NONE);
    }

    int best(int n) {
        if (no(n, 0, 20)) return find(Due.BEYOND);
        int[] left = new int[16];
        for (int e = 0; e < 16; e++) {
            State s = now.copied();
            s.comesTrue(e);
            left[e] = s.after(n).larders();
        }
        return firstMost(left);
    }

    private static int firstMost(int[] row) {
        int most = row[0];
        for (int v : row) most = Math.max(most, v);
        int at = 0;
        while (row[at] != most) at++;
        return at;
    }

    int lean(int house, int rumour) {
        if (no(house, 0, 7) || noRumour(rumour)) return find(Due.BEYOND);
        for (int leans = 0; leans <= 9; leans++) {
            State s = now.copied();
            s.houses[house][2] = leans;
            if (s.takes(house, s.all.get(rumour))) return leans;
        }
        return find(Due.NONE);
    }

    int leanFor(int house, int n) {
        if (no(house, 0, 7) || no(n, 0, 20)) return find(Due.BEYOND);
        int[] has = new int[10];
        for (int leans = 0; leans <= 9; leans++) {
            State s = now.copied();
            s.houses[house][2] = leans;
            has[leans] = s.after(n).houses[house][1];
        }
        return firstMost(has);
    }

    int kind(int rumour) {
        if (noRumour(rumour)) return find(Due.BEYOND);
        int[] spared = new int[6];
        for (int k = 0; k < 6; k++) spared[k] = -KINDS.get(k).eats(now.all.get(rumour));
        return firstMost(spared);
    }

    int host(int rumour) {
        if (noRumour(rumour)) return find(Due.BEYOND);
        int h = now.host(now.all.get(rumour));
        return h < 0 ? find(Due.NONE) : h;
    }

    int beds(int house, int n) {
        if (no(house, 0, 7) || no(n, 0, 20)) return find(Due.BEYOND);
        for (int beds = 0; beds <= 3; beds++) {
            State s = now.copied();
            s.houses[house][0] = beds;
            if (s.after(n).in(-1).isEmpty()) return beds;
        }
        return find(Due.NONE);
    }

    int feed(int bytes, int n) {
        if (no(n, 1, 4)) return find(Due.BEYOND);
        if (tape.length() + n > 120) return find(Due.FULL);
        String all = "" + (char) (bytes >>> 24) + (char) (bytes >> 16 & 255) + (char) (bytes >> 8 & 255) + (char) (bytes & 255);
        tape.append(all.substring(4 - n));
        return tape.length();
    }

    int wipe() {
        int had = tape.length();
        tape = new StringBuilder();
        return had;
    }

    /** The state that is told is a copy; the fault's place is thrown through as an answer below 0. */
    int town() {
        List<String> tokens = new ArrayList<>();
        List<Integer> places = new ArrayList<>();
        Matcher m = Pattern.compile("[a-z]+|[0-9]+|;|[^ ]", Pattern.DOTALL).matcher(tape);
        while (m.find()) {
            tokens.add(m.group());
            places.add(m.start());
        }
        tokens.add("");
        places.add(tape.length());
        State s = now.copied();
        int at = 0;
        int items = 0;
        wipe();
        while (true) {
            int next = item(s, tokens, at);
            if (next < 0) return -1 - places.get(-1 - next);
            items++;
            if (tokens.get(next).isEmpty()) break;
            if (!tokens.get(next).equals(";")) return -1 - places.get(next);
            at = next + 1;
        }
        now = s;
        return items;
    }

    private static int number(List<String> tokens, int at, int most) {
        String t = at < tokens.size() ? tokens.get(at) : "";
        if (!t.matches("[0-9]+")) return -1;
        return new java.math.BigInteger(t).compareTo(java.math.BigInteger.valueOf(most)) > 0 ? -1 : Integer.parseInt(t);
    }

    /** The token behind the item, or -1 less the token that can't stand there. */
    private static int item(State s, List<String> tokens, int at) {
        String name = tokens.get(at);
        if (name.equals("true")) {
            int e = number(tokens, at + 1, 15);
            if (e < 0) return -1 - (at + 1);
            s.comesTrue(e);
            return at + 2;
        }
        if (name.equals("house")) {
            int h = number(tokens, at + 1, 7);
            if (h < 0) return -1 - (at + 1);
            int next = at + 2;
            String[] words = {"beds", "larder", "leans"};
            int[] most = {3, 999, 9};
            for (int what = 0; what < 3; what++) {
                if (!tokens.get(next).equals(words[what])) continue;
                int v = number(tokens, next + 1, most[what]);
                if (v < 0) return -1 - (next + 1);
                s.houses[h][what] = v;
                next += 2;
            }
            return next;
        }
        if (!NAMES.contains(name) || s.all.size() == 10) return -1 - at;
        if (!tokens.get(at + 1).equals("of")) return -1 - (at + 1);
        int e = number(tokens, at + 2, 15);
        if (e < 0) return -1 - (at + 2);
        Rumour r = new Rumour(NAMES.indexOf(name), e);
        int next = at + 3;
        if (tokens.get(next).equals("bulk")) {
            int v = number(tokens, next + 1, 99);
            if (v < 0) return -1 - (next + 1);
            r.bulk = v;
            next += 2;
        }
        if (tokens.get(next).equals("in")) {
            int h = number(tokens, next + 1, 7);
            if (h < 0 || s.in(h).size() >= s.houses[h][0]) return -1 - (next + 1);
            r.house = h;
            next += 2;
        }
        s.all.add(r);
        return next;
    }

    int sheet(int s, int bits, int n) {
        if (no(s, 0, 3) || !List.of(0, 8, 16, 64).contains(bits)) return find(Due.BEYOND);
        if (n < 0) return find(Due.SIZE);
        if (n > 40) return find(Due.BEYOND);
        sheets[s] = bits == 0 ? null : bits == 8 ? new byte[n] : bits == 16 ? new short[n] : new long[n];
        return bits == 0 ? 0 : n;
    }

    private int lengthOf(int s) {
        return java.lang.reflect.Array.getLength(sheets[s]);
    }

    private long numberOf(int s, int i) {
        return java.lang.reflect.Array.getLong(sheets[s], i);
    }

    private void put(int s, int i, long v) {
        Object sheet = sheets[s];
        if (sheet instanceof byte[] b) b[i] = (byte) v;
        if (sheet instanceof short[] b) b[i] = (short) v;
        if (sheet instanceof long[] b) b[i] = v;
    }

    long write(int s, int i, long v) {
        if (no(s, 0, 3)) return find(Due.BEYOND);
        if (sheets[s] == null) return find(Due.MISSING);
        if (no(i, 0, lengthOf(s) - 1)) return find(Due.BEYOND);
        long was = numberOf(s, i);
        put(s, i, v);
        return was;
    }

    int copy(int s, int from, int t, int to, int n) {
        if (no(s, 0, 3) || no(t, 0, 3)) return find(Due.BEYOND);
        if (sheets[s] == null || sheets[t] == null) return find(Due.MISSING);
        if (sheets[s].getClass() != sheets[t].getClass()) return find(Due.KIND);
        if (from < 0 || to < 0 || n < 0) return find(Due.BEYOND);
        if ((long) from + n > lengthOf(s) || (long) to + n > lengthOf(t)) return find(Due.BEYOND);
        List<Long> were = new ArrayList<>();
        for (int i = 0; i < n; i++) were.add(numberOf(s, from + i));
        for (int i = 0; i < n; i++) put(t, to + i, were.get(i));
        return n;
    }

    int lays(int s) {
        if (no(s, 0, 3)) return find(Due.BEYOND);
        if (sheets[s] == null) return find(Due.MISSING);
        int came = 0;
        for (int i = 0; i < lengthOf(s); i++) {
            if (i > 7 || numberOf(s, i) < 0 || numberOf(s, i) > 9) continue;
            now.houses[i][2] = (int) numberOf(s, i);
            came++;
        }
        return came;
    }

    int book(int s, int house) {
        if (no(s, 0, 3)) return find(Due.BEYOND);
        if (sheets[s] == null) return find(Due.MISSING);
        if (no(house, 0, 7)) return find(Due.BEYOND);
        for (int n = 0; n < lengthOf(s); n++) put(s, n, now.after(n).houses[house][1]);
        return lengthOf(s);
    }

    int read(int s, int house) {
        if (no(s, 0, 3)) return find(Due.BEYOND);
        if (sheets[s] == null) return find(Due.MISSING);
        if (no(house, 0, 7)) return find(Due.BEYOND);
        int pairs = 0;
        for (Rumour r : now.in(house)) {
            int was = r.kind;
            for (r.kind = 0; r.kind < 6; r.kind++) {
                boolean same = true;
                for (int n = 0; n < lengthOf(s); n++) same &= numberOf(s, n) == now.after(n).houses[house][1];
                if (same) pairs++;
            }
            r.kind = was;
        }
        return pairs;
    }

    int image() {
        kept = now.copied();
        return 1;
    }

    int undo() {
        if (kept == null) return find(Due.NONE);
        now = kept.copied();
        return now.all.size();
    }

    int tear() {
        int was = kept == null ? 0 : 1;
        kept = null;
        return was;
    }

    int count(int what) {
        switch (what) {
            case 0: return now.all.size();
            case 1: return tape.length();
            case 2: return now.all.size() - now.in(-1).size();
            case 3:
                int beds = 0;
                for (int[] h : now.houses) beds += h[0];
                return beds;
            default: return find(Due.BEYOND);
        }
    }

    int status(int which) {
        if (no(which, -1, 6)) return find(Due.BEYOND);
        int sum = 0;
        for (int i = 0; i < 7; i++) if (which == -1 || which == i) sum += found[i];
        return sum;
    }
}
