import java.util.ArrayList;
import java.util.Arrays;
import java.util.Deque;
import java.util.ArrayDeque;
import java.util.HashMap;
import java.util.HashSet;
import java.util.List;
import java.util.Map;
import java.util.Set;
import java.util.regex.Matcher;
import java.util.regex.Pattern;

/**
 * The document once more, told as literally as can be and without a care for speed: sets minute by minute,
 * all ways one behind the other. RandomRunsTest holds ThroatTracks against it.
 */
final class PlainThroat {
    static final int BAD = -1, NO = -2, FULL = -3, NONE = -4;
    private static final Pattern ITEM = Pattern.compile("\\G(yard|path|come|pair|span) (\\d\\d?(?:,\\d\\d?)*);");

    static final class Train {
        int in, out, p, q, wish = 9, mate = NONE, track = NONE;

        Train copy() {
            Train t = new Train();
            t.in = in;
            t.out = out;
            t.p = p;
            t.q = q;
            t.wish = wish;
            t.mate = mate;
            t.track = track;
            return t;
        }
    }

    static final class Station {
        int lines, tracks, gap = 1;
        final Map<Integer, Set<Integer>> routes = new HashMap<>();
        List<Train> trains = new ArrayList<>();
        int fault = NONE;

        Set<Integer> route(int line, int track) {
            return routes.get(line * 10 + track);
        }
    }

    private final StringBuilder text = new StringBuilder();
    private Station st;
    private final Deque<List<Train>> past = new ArrayDeque<>();

    PlainThroat() {
        st = read("yard 2,3;path 0,0,1;path 0,1,1,2;path 0,2,1,2,3;path 1,0,4,5;path 1,1,4;path 1,2,3;"
            + "come 0,1,10,20,1;come 1,0,12,18,9;come 0,0,15,25,1;come 1,1,22,30,0;span 1;");
    }

    // ---- told

    int write(int letter) {
        if (letter < 32 || letter > 126) return BAD;
        if (text.length() == 200) return FULL;
        text.append((char) letter);
        return text.length();
    }

    int wipe() {
        int was = text.length();
        text.setLength(0);
        return was;
    }

    int fault() {
        return read(text.toString()).fault;
    }

    int lay() {
        Station told = read(text.toString());
        if (told.fault != NONE || told.lines == 0) return NO;
        st = told;
        past.clear();
        return st.trains.size();
    }

    private static Station read(String text) {
        Station s = new Station();
        Matcher m = ITEM.matcher(text);
        int at = 0;
        while (at < text.length()) {
            if (!m.find() || !tell(s, m.group(1), numbers(m.group(2)), at == 0)) {
                s.fault = at;
                return s;
            }
            at = m.end();
        }
        return s;
    }

    private static List<Integer> numbers(String list) {
        List<Integer> out = new ArrayList<>();
        for (String one : list.split(",")) out.add(Integer.parseInt(one));
        return out;
    }

    private static boolean tell(Station s, String word, List<Integer> n, boolean first) {
        if (word.equals("yard") != first) return false;
        switch (word) {
            case "yard":
                if (n.size() != 2 || n.get(0) < 1 || n.get(0) > 3 || n.get(1) < 1 || n.get(1) > 4) return false;
                s.lines = n.get(0);
                s.tracks = n.get(1);
                return true;
            case "path":
                if (n.size() < 2 || n.size() > 6 || n.get(0) >= s.lines || n.get(1) >= s.tracks) return false;
                Set<Integer> switches = new HashSet<>(n.subList(2, n.size()));
                for (int one : switches) if (one > 11) return false;
                return s.routes.putIfAbsent(n.get(0) * 10 + n.get(1), switches) == null;
            case "come":
                if (n.size() != 5 || s.trains.size() == 7 || n.get(0) >= s.lines || n.get(1) >= s.lines) return false;
                if (n.get(2) < 1 || n.get(2) > 98 || n.get(3) < 1 || n.get(3) > 98 || n.get(3) < n.get(2)) return false;
                if (n.get(4) != 9 && n.get(4) >= s.tracks) return false;
                Train t = new Train();
                t.in = n.get(0);
                t.out = n.get(1);
                t.p = n.get(2);
                t.q = n.get(3);
                t.wish = n.get(4);
                s.trains.add(t);
                return true;
            case "pair":
                if (n.size() != 2 || n.get(0).equals(n.get(1))) return false;
                for (int one : n) if (one >= s.trains.size() || s.trains.get(one).mate != NONE) return false;
                s.trains.get(n.get(0)).mate = n.get(1);
                s.trains.get(n.get(1)).mate = n.get(0);
                return true;
            default:
                if (n.size() != 1 || n.get(0) > 9) return false;
                s.gap = n.get(0);
                return true;
        }
    }

    // ---- the yard

    private boolean isTrain(int i) {
        return 0 <= i && i < st.trains.size();
    }

    private boolean isTrack(int t) {
        return 0 <= t && t < st.tracks;
    }

    private static int bits(Set<Integer> set) {
        int b = 0;
        for (int one : set) b |= 1 << one;
        return b;
    }

    int route(int line, int track) {
        if (line < 0 || line >= st.lines || !isTrack(track)) return BAD;
        Set<Integer> r = st.route(line, track);
        return r == null ? NONE : bits(r);
    }

    int train(int i, int what) {
        if (!isTrain(i) || what < 0 || what > 8) return BAD;
        Train t = st.trains.get(i);
        int fits = 0;
        int hard = 0;
        for (int k = 0; k < st.tracks; k++) {
            if (fits(i, k)) fits += 1 << k;
            if (reason(i, k) == 0) hard++;
        }
        return new int[] {t.in, t.out, t.p, t.q, t.wish == 9 ? NONE : t.wish, t.mate, t.track, fits, hard}[what];
    }

    private boolean fits(int i, int track) {
        Train t = st.trains.get(i);
        return st.route(t.in, track) != null && st.route(t.out, track) != null;
    }

    // ---- places

    private Set<Integer> switchesAt(int i, int track, int minute) {
        Train t = st.trains.get(i);
        Set<Integer> out = new HashSet<>();
        if (List.of(t.p - 1, t.p).contains(minute)) out.addAll(st.route(t.in, track));
        if (List.of(t.q, t.q + 1).contains(minute)) out.addAll(st.route(t.out, track));
        return out;
    }

    private int clashKind(int i, int track, int j, int other) {
        if (!fits(i, track) || !fits(j, other)) return 0;
        Train a = st.trains.get(i);
        Train b = st.trains.get(j);
        if (track == other && a.mate == j) return 0;
        int apart = st.gap > 1 ? st.gap : 1;
        boolean onTrack = track == other && a.p - b.q < apart && b.p - a.q < apart;
        boolean onSwitch = false;
        for (int m = 0; m < 100; m++) {
            Set<Integer> both = switchesAt(i, track, m);
            both.retainAll(switchesAt(j, other, m));
            onSwitch |= !both.isEmpty();
        }
        return (onTrack ? 1 : 0) + (onSwitch ? 2 : 0);
    }

    private int reason(int i, int track) {
        Train t = st.trains.get(i);
        if (st.route(t.in, track) == null) return 1;
        if (st.route(t.out, track) == null) return 2;
        for (int j = 0; j < st.trains.size(); j++) {
            int other = st.trains.get(j).track;
            if (j != i && other != NONE && clashKind(i, track, j, other) != 0) return 3 + j;
        }
        return 0;
    }

    private void change() {
        List<Train> copy = new ArrayList<>();
        for (Train t : st.trains) copy.add(t.copy());
        past.push(copy);
        if (past.size() > 6) past.removeLast();
    }

    int give(int i, int track) {
        if (!isTrain(i) || !isTrack(track)) return BAD;
        if (st.trains.get(i).track != NONE || reason(i, track) != 0) return NO;
        change();
        st.trains.get(i).track = track;
        return count(4);
    }

    int take(int i) {
        if (!isTrain(i)) return BAD;
        int had = st.trains.get(i).track;
        if (had == NONE) return NO;
        change();
        st.trains.get(i).track = NONE;
        return had;
    }

    int why(int i, int track) {
        return isTrain(i) && isTrack(track) ? reason(i, track) : BAD;
    }

    int clash(int i, int track, int j, int other) {
        if (!isTrain(i) || !isTrain(j) || i == j || !isTrack(track) || !isTrack(other)) return BAD;
        return clashKind(i, track, j, other);
    }

    int late(int i, int d) {
        if (!isTrain(i) || d == 0 || d < -20 || d > 60) return BAD;
        Train t = st.trains.get(i);
        for (int m : new int[] {t.p + d, t.q + d}) if (m < 1 || m > 98) return NO;
        change();
        t.p += d;
        t.q += d;
        if (t.track == NONE || reason(i, t.track) == 0) return 0;
        t.track = NONE;
        return 1;
    }

    int wish(int i, int track) {
        if (!isTrain(i) || !isTrack(track) && track != 9) return BAD;
        int was = st.trains.get(i).wish;
        if (was == track) return NO;
        change();
        st.trains.get(i).wish = track;
        return was;
    }

    // ---- ways

    private int[] now() {
        int[] w = new int[st.trains.size()];
        for (int i = 0; i < w.length; i++) w[i] = st.trains.get(i).track;
        return w;
    }

    private static int without(int[] w) {
        int n = 0;
        for (int t : w) if (t == NONE) n++;
        return n;
    }

    private int wished(int[] w) {
        int n = 0;
        for (int i = 0; i < w.length; i++) if (w[i] == st.trains.get(i).wish) n++;
        return n;
    }

    private int otherwise(int[] w) {
        int n = 0;
        int[] now = now();
        for (int i = 0; i < w.length; i++) if (w[i] != now[i]) n++;
        return n;
    }

    /** Every way, the first first; the one with the least key, of several the first. */
    private int[] leastWay(int law, int broken) {
        int n = st.trains.size();
        boolean[][][][] bad = new boolean[n][4][n][4];
        boolean[][] can = new boolean[n][4];
        for (int i = 0; i < n; i++) for (int t = 0; t < st.tracks; t++) {
            Train one = st.trains.get(i);
            can[i][t] = fits(i, t) && !st.route(one.in, t).contains(broken) && !st.route(one.out, t).contains(broken);
            for (int j = 0; j < i; j++) for (int u = 0; u < st.tracks; u++) bad[i][t][j][u] = clashKind(i, t, j, u) != 0;
        }
        int all = 1;
        for (int i = 0; i < n; i++) all *= st.tracks + 1;
        int[] best = null;
        int bestKey = 0;
        for (int number = 0; number < all; number++) {
            int[] w = new int[n];
            int rest = number;
            for (int i = n - 1; i >= 0; i--) {
                w[i] = rest % (st.tracks + 1);
                if (w[i] == st.tracks) w[i] = NONE;
                rest /= st.tracks + 1;
            }
            if (!stands(w, can, bad)) continue;
            int key = 100 * without(w) + (law == 0 ? -wished(w) : otherwise(w));
            if (best == null || key < bestKey) {
                best = w;
                bestKey = key;
            }
        }
        return best;
    }

    private static boolean stands(int[] w, boolean[][] can, boolean[][][][] bad) {
        for (int i = 0; i < w.length; i++) {
            if (w[i] == NONE) continue;
            if (!can[i][w[i]]) return false;
            for (int j = 0; j < i; j++) if (w[j] != NONE && bad[i][w[i]][j][w[j]]) return false;
        }
        return true;
    }

    int way(int law, int i) {
        if (law < 0 || law > 1 || i < -3 || i >= st.trains.size()) return BAD;
        int[] w = leastWay(law, -1);
        if (i == -1) return without(w);
        if (i == -2) return wished(w);
        if (i == -3) return otherwise(w);
        return w[i];
    }

    int adopt(int law) {
        if (law < 0 || law > 1) return BAD;
        int[] w = leastWay(law, -1);
        int n = otherwise(w);
        change();
        for (int i = 0; i < w.length; i++) st.trains.get(i).track = w[i];
        return n;
    }

    int without(int s) {
        return s < 0 || s > 11 ? BAD : without(leastWay(0, s));
    }

    int undo() {
        if (past.isEmpty()) return NO;
        st.trains = past.pop();
        return past.size();
    }

    // ---- in use

    int on(int track, int minute) {
        if (!isTrack(track) || minute < 0 || minute > 99) return BAD;
        int b = 0;
        for (int i = 0; i < st.trains.size(); i++) {
            Train t = st.trains.get(i);
            for (int m = t.p; m <= t.q; m++) if (t.track == track && m == minute) b |= 1 << i;
        }
        return b;
    }

    int taken(int minute) {
        if (minute < 0 || minute > 99) return BAD;
        Set<Integer> all = new HashSet<>();
        for (int i = 0; i < st.trains.size(); i++) {
            int track = st.trains.get(i).track;
            if (track != NONE) all.addAll(switchesAt(i, track, minute));
        }
        return bits(all);
    }

    int use(int what, int k) {
        if (what < 0 || what > 1 || what == 0 && !isTrack(k) || k < 0 || k > 11) return BAD;
        int n = 0;
        for (int m = 0; m < 100; m++) if (what == 0 ? on(k, m) != 0 : (taken(m) & 1 << k) != 0) n++;
        return n;
    }

    int count(int what) {
        if (what < 0 || what > 7) return BAD;
        int n = st.trains.size();
        return new int[] {st.lines, st.tracks, n, st.gap, n - without(now()), wished(now()), past.size(), text.length()}[what];
    }

    @Override
    public String toString() {
        return text + " " + Arrays.toString(now());
    }
}
