import java.util.ArrayList;
import java.util.List;
import java.util.Random;

/** Runs of calls, drawn from fixed seeds, on ThroatTracks and on PlainThroat: each answer must be the same. */
public final class RandomRunsTest {
    private static final int RUNS = 1500;
    /** An object is used for 512 calls; a telling takes some 230, a step some 10. */
    private static final int CALLS = 500;
    private static final int LAST_TELLING = 280;

    private final Random draw;
    private final ThroatTracks real = new ThroatTracks();
    private final PlainThroat plain = new PlainThroat();
    private final List<String> log = new ArrayList<>();
    private int calls = 0;
    private boolean same = true;

    private RandomRunsTest(long seed) {
        draw = new Random(seed);
    }

    public static void main(String[] args) {
        int wrong = 0;
        long calls = 0;
        for (int run = 0; run < RUNS && wrong < 5; run++) {
            RandomRunsTest one = new RandomRunsTest(run);
            one.go();
            calls += one.calls;
            if (!one.same) {
                wrong++;
                System.out.println("run " + run + ": " + String.join(" ", one.log));
            }
        }
        System.out.println(calls + " calls in " + RUNS + " runs, " + wrong + " runs wrong");
        if (wrong != 0) System.exit(1);
    }

    private void go() {
        int laid = 0;
        while (same && calls < CALLS) {
            if (calls < LAST_TELLING && draw.nextInt(120) == 0 || laid == 0 && draw.nextInt(4) != 0) {
                tell(draw.nextInt(6) == 0 ? spoilt(station()) : station());
                laid++;
            } else {
                laid++;
                call();
            }
        }
    }

    private void due(String call, int got, int want) {
        calls++;
        log.add(call + "=" + got);
        if (got != want) {
            same = false;
            log.add("<- due is " + want);
        }
    }

    private void tell(String text) {
        if (draw.nextInt(8) != 0) due("wipe()", real.wipe(), plain.wipe());
        for (int k = 0; k < text.length() && same; k++) {
            int letter = text.charAt(k);
            due("write(" + letter + ")", real.write(letter), plain.write(letter));
            if (draw.nextInt(15) == 0) due("fault()", real.fault(), plain.fault());
        }
        due("fault()", real.fault(), plain.fault());
        due("lay()", real.lay(), plain.lay());
    }

    private String station() {
        int lines = 1 + draw.nextInt(3);
        int tracks = 1 + draw.nextInt(4);
        StringBuilder b = new StringBuilder("yard " + lines + "," + tracks + ";");
        int most = draw.nextInt(3);
        int kinds = 1 + draw.nextInt(12);
        boolean gaps = draw.nextInt(4) == 0;
        for (int a = 0; a < lines; a++) {
            for (int t = 0; t < tracks; t++) {
                if (gaps && draw.nextInt(4) == 0 || b.length() > 110) continue;
                b.append("path ").append(a).append(",").append(t);
                int n = draw.nextInt(most + 1);
                for (int k = 0; k < n; k++) b.append(",").append(draw.nextInt(kinds));
                b.append(";");
            }
        }
        int trains = draw.nextInt(30) == 0 ? 7 : draw.nextInt(6);
        int spread = 1 + draw.nextInt(draw.nextInt(8) == 0 ? 90 : 25);
        for (int i = 0; i < trains; i++) {
            int p = 1 + draw.nextInt(spread);
            int q = Math.min(98, p + draw.nextInt(8));
            int w = draw.nextInt(3) == 0 ? 9 : draw.nextInt(tracks);
            add(b, "come " + draw.nextInt(lines) + "," + draw.nextInt(lines) + "," + p + "," + q + "," + w + ";");
        }
        if (trains > 1 && draw.nextBoolean()) add(b, "pair 0,1;");
        if (trains > 3 && draw.nextInt(3) == 0) add(b, "pair 3,2;");
        if (draw.nextBoolean()) add(b, "span " + draw.nextInt(10) + ";");
        return b.toString();
    }

    private static void add(StringBuilder b, String item) {
        if (b.length() + item.length() <= 200) b.append(item);
    }

    private String spoilt(String text) {
        StringBuilder b = new StringBuilder(text);
        int at = draw.nextInt(b.length());
        String marks = "0123456789,; yardpthcomeins";
        switch (draw.nextInt(4)) {
            case 0: b.setCharAt(at, marks.charAt(draw.nextInt(marks.length()))); break;
            case 1: b.deleteCharAt(at); break;
            case 2: b.insert(at, marks.charAt(draw.nextInt(marks.length()))); break;
            default: b.append(text); break;
        }
        return b.toString();
    }

    private int around(int below) {
        return draw.nextInt(25) == 0 ? draw.nextInt(below + 4) - 2 : draw.nextInt(Math.max(1, below));
    }

    private void call() {
        int i = around(real.count(2));
        int j = around(real.count(2));
        int t = around(real.count(1));
        int u = around(real.count(1));
        switch (draw.nextInt(20)) {
            case 0: case 1: case 2: due("give(" + i + "," + t + ")", real.give(i, t), plain.give(i, t)); break;
            case 3: due("take(" + i + ")", real.take(i), plain.take(i)); break;
            case 4: due("why(" + i + "," + t + ")", real.why(i, t), plain.why(i, t)); break;
            case 5: case 6:
                due("clash(" + i + "," + t + "," + j + "," + u + ")", real.clash(i, t, j, u), plain.clash(i, t, j, u)); break;
            case 7: case 8: lateBy(i); break;
            case 9: wishFor(i, draw.nextInt(4) == 0 ? 9 : t); break;
            case 10: wayOf(draw.nextInt(20) == 0 ? draw.nextInt(5) - 2 : draw.nextInt(2)); break;
            case 11: adoptBy(draw.nextInt(30) == 0 ? draw.nextInt(5) - 2 : draw.nextInt(2)); break;
            case 12: int s = around(12); due("without(" + s + ")", real.without(s), plain.without(s)); break;
            case 13: case 14: due("undo()", real.undo(), plain.undo()); break;
            case 15: int m = around(draw.nextBoolean() ? 40 : 100);
                due("on(" + t + "," + m + ")", real.on(t, m), plain.on(t, m));
                due("taken(" + m + ")", real.taken(m), plain.taken(m)); break;
            case 16: int what = around(2);
                int k = what == 1 ? around(12) : t;
                due("use(" + what + "," + k + ")", real.use(what, k), plain.use(what, k)); break;
            case 17: int c = around(8); due("count(" + c + ")", real.count(c), plain.count(c)); break;
            case 18: int w = around(9); due("train(" + i + "," + w + ")", real.train(i, w), plain.train(i, w)); break;
            default: int a = around(real.count(0)); due("route(" + a + "," + t + ")", real.route(a, t), plain.route(a, t));
        }
        for (int n = 0; n < real.count(2) && same; n++) {
            due("train(" + n + ",6)", real.train(n, 6), plain.train(n, 6));
        }
    }

    private void lateBy(int i) {
        int d = draw.nextInt(3) == 0 ? draw.nextInt(85) - 22 : draw.nextInt(13) - 6;
        due("late(" + i + "," + d + ")", real.late(i, d), plain.late(i, d));
    }

    private void wishFor(int i, int t) {
        due("wish(" + i + "," + t + ")", real.wish(i, t), plain.wish(i, t));
    }

    private void wayOf(int law) {
        int i = draw.nextInt(11) - 4;
        due("way(" + law + "," + i + ")", real.way(law, i), plain.way(law, i));
    }

    private void adoptBy(int law) {
        due("adopt(" + law + ")", real.adopt(law), plain.adopt(law));
    }
}
