import java.io.IOException;
import java.nio.file.Files;
import java.nio.file.Path;
import java.util.ArrayList;
import java.util.Arrays;
import java.util.List;
import java.util.Map;
import java.util.Set;
import java.util.function.IntConsumer;
import java.util.regex.Matcher;
import java.util.regex.Pattern;

/**
 * Cases for the sentences of the document. A case is a run of calls, written "give(0,1)=1 take(0)=1 take(0)=NO";
 * 'abc' in it writes these letters. Behind each call that asks or is refused, all that can be asked of the object
 * (behind each undo and behind lay, too) must be as it was ahead of it.
 */
final class Cases {
    private static final Map<String, Integer> NAMES = Map.of("BAD", -1, "NO", -2, "FULL", -3, "NONE", -4);
    private static final Set<String> ASKING =
        Set.of("fault", "route", "train", "why", "clash", "way", "without", "on", "taken", "use", "count");
    private static final Pattern ROW = Pattern.compile("\\G\\s*(?:'([^']*)'|(\\w+)\\(([-\\d,]*)\\)=(-?\\w+))");
    private static final int MOST_CALLS = 512;
    private static final int MOST_UNDONE = 6;

    /** A call with the answer that is due, or letters to write. */
    private record Row(String letters, String name, int[] args, int due) {
        @Override
        public String toString() {
            return letters != null ? "'" + letters + "'" : name + Arrays.toString(args).replace('[', '(').replace(']', ')');
        }
    }

    private final List<String> sections;
    private final List<boolean[]> quoted = new ArrayList<>();
    private String sentence = "";
    private int cases = 0;
    private int wrong = 0;

    Cases(Path document) throws IOException {
        sections = sectionsOf(Files.readString(document));
        for (String section : sections) quoted.add(new boolean[section.length()]);
    }

    /** Section 0 is what stands ahead of promise 1; headings, signatures and the rows "Ahead of the calls" are no sentences. */
    private static List<String> sectionsOf(String document) {
        String text = document.substring(document.indexOf("There are LINES (1 to 3)"), document.indexOf("## Not promised"));
        text = text.replaceAll("(?s)```java.*?```", " ").replaceAll("(?m)^```\\w*$", " ").replaceAll("======== \\d+", " ");
        text = text.replaceAll("(?m)^Ahead of the calls .*$", " ").replaceAll("(?m)^## (?!Promise).*$", " ");
        List<String> out = new ArrayList<>();
        for (String one : text.split("(?m)^## Promise .*$")) out.add(flat(one.replaceAll("`[^`]*`:", " ")));
        return out;
    }

    private static String flat(String text) {
        return text.replaceAll("\\s+", " ").trim();
    }

    /** The cases that follow are those of this sentence, which must stand in the document. */
    void of(int section, String quote) {
        sentence = section + " \"" + quote + "\"";
        String text = section < sections.size() ? sections.get(section) : "";
        String flat = flat(quote);
        int at = text.indexOf(flat);
        if (at < 0) {
            tell("does not stand in the document");
            return;
        }
        Arrays.fill(quoted.get(section), at, at + flat.length(), true);
    }

    void tell(String what) {
        wrong++;
        System.out.println("sentence " + sentence + ": " + what);
    }

    void check(boolean good, String what) {
        cases++;
        if (!good) tell(what);
    }

    // ---- runs

    void fresh(String rows) {
        go(List.of(), rows);
    }

    void told(String text, String rows) {
        go(List.of(letters(text)), rows);
    }

    void laid(String text, String rows) {
        Row lay = new Row(null, "lay", new int[0], trainsIn(text));
        go(List.of(letters(text), lay), rows);
    }

    private static int trainsIn(String text) {
        return text.split("come ", -1).length - 1;
    }

    /** TEXTS without FAULT: each can be LAID, if it is not empty. */
    void fine(String ahead, String... items) {
        for (String item : items) {
            String text = ahead + item;
            told(text, "fault()=NONE lay()=" + (text.isEmpty() ? "NO" : "" + trainsIn(text)));
        }
    }

    /** TEXTS whose FAULT is the ITEM behind what is ahead. */
    void faulty(String ahead, String... items) {
        for (String item : items) told(ahead + item, "fault()=" + ahead.length() + " lay()=NO");
    }

    private static Row letters(String text) {
        return new Row(text, null, null, 0);
    }

    private List<Row> parse(String rows) {
        List<Row> out = new ArrayList<>();
        Matcher m = ROW.matcher(rows);
        int end = 0;
        while (m.find()) {
            end = m.end();
            if (m.group(1) != null) {
                out.add(letters(m.group(1)));
                continue;
            }
            String list = m.group(3);
            int[] args = list.isEmpty() ? new int[0] : Arrays.stream(list.split(",")).mapToInt(Integer::parseInt).toArray();
            String due = m.group(4);
            out.add(new Row(null, m.group(2), args, NAMES.containsKey(due) ? NAMES.get(due) : Integer.parseInt(due)));
        }
        check(rows.substring(end).isBlank(), "is no row: " + rows.substring(end));
        return out;
    }

    private void go(List<Row> begin, String rows) {
        List<Row> all = new ArrayList<>(begin);
        all.addAll(parse(rows));
        Player player = new Player();
        for (int k = 0; k < all.size(); k++) {
            Row row = all.get(k);
            int got = player.play(row);
            check(got == row.due || row.letters != null, behind(all, k) + row + " answered " + got + ", due is " + row.due);
            if (row.letters == null && isNoChange(row)) {
                check(Arrays.equals(stateBehind(all, k), stateBehind(all, k + 1)), behind(all, k) + row + " has changed something");
            }
        }
        check(player.calls <= MOST_CALLS, "has " + player.calls + " calls");
    }

    private static String behind(List<Row> all, int size) {
        StringBuilder b = new StringBuilder();
        for (int k = 0; k < size; k++) b.append(all.get(k)).append(' ');
        return b.append("-> ").toString();
    }

    private static boolean isNoChange(Row row) {
        return ASKING.contains(row.name) || row.due < 0;
    }

    // ---- all that can be asked

    private int[] stateBehind(List<Row> all, int size) {
        List<Integer> state = new ArrayList<>();
        for (int depth = 0; depth <= MOST_UNDONE; depth++) {
            Player player = replay(all, size);
            for (int k = 0; k < depth; k++) state.add(player.call("undo"));
            askYardAndTrains(player, state::add);
        }
        Player anew = replay(all, size);
        state.add(anew.call("fault"));
        state.add(anew.call("lay"));
        askYardAndTrains(anew, state::add);
        askUse(replay(all, size), state::add);
        return state.stream().mapToInt(Integer::intValue).toArray();
    }

    private Player replay(List<Row> all, int size) {
        Player player = new Player();
        for (int k = 0; k < size; k++) player.play(all.get(k));
        return player;
    }

    private void askYardAndTrains(Player player, IntConsumer keep) {
        for (int what = 0; what < 8; what++) keep.accept(player.call("count", what));
        for (int line = 0; line < 3; line++) {
            for (int track = 0; track < 4; track++) keep.accept(player.call("route", line, track));
        }
        for (int i = 0; i < 7; i++) {
            for (int what = 0; what < 9; what++) keep.accept(player.call("train", i, what));
        }
        check(player.calls <= MOST_CALLS, "is asked in " + player.calls + " calls");
    }

    private void askUse(Player player, IntConsumer keep) {
        for (int minute = 0; minute < 100; minute++) keep.accept(player.call("taken", minute));
        for (int track = 0; track < 4; track++) keep.accept(player.call("use", 0, track));
        check(player.calls <= MOST_CALLS, "is asked in " + player.calls + " calls");
    }

    /** An object with the calls that it has had. */
    private static final class Player {
        final ThroatTracks x = new ThroatTracks();
        int calls = 0;

        int play(Row row) {
            if (row.letters == null) return call(row.name, row.args);
            for (char letter : row.letters.toCharArray()) call("write", letter);
            return 0;
        }

        int call(String name, int... n) {
            calls++;
            switch (name) {
                case "write": return x.write(n[0]);
                case "wipe": return x.wipe();
                case "fault": return x.fault();
                case "lay": return x.lay();
                case "route": return x.route(n[0], n[1]);
                case "train": return x.train(n[0], n[1]);
                case "give": return x.give(n[0], n[1]);
                case "take": return x.take(n[0]);
                case "why": return x.why(n[0], n[1]);
                case "clash": return x.clash(n[0], n[1], n[2], n[3]);
                case "late": return x.late(n[0], n[1]);
                case "wish": return x.wish(n[0], n[1]);
                case "way": return x.way(n[0], n[1]);
                case "adopt": return x.adopt(n[0]);
                case "without": return x.without(n[0]);
                case "undo": return x.undo();
                case "on": return x.on(n[0], n[1]);
                case "taken": return x.taken(n[0]);
                case "use": return x.use(n[0], n[1]);
                case "count": return x.count(n[0]);
                default: throw new IllegalArgumentException("no call " + name);
            }
        }
    }

    // ---- the end

    /** How many were wrong; a part of the document without a case is wrong, too. */
    int finish() {
        for (int section = 0; section < sections.size(); section++) tellUnquoted(section);
        System.out.println("edges: " + cases + " cases, " + wrong + " wrong");
        return wrong;
    }

    private void tellUnquoted(int section) {
        String text = sections.get(section);
        boolean[] marks = quoted.get(section);
        StringBuilder rest = new StringBuilder();
        for (int k = 0; k < text.length(); k++) {
            if (!marks[k]) rest.append(text.charAt(k));
        }
        sentence = section + " \"" + rest.toString().trim() + "\"";
        if (rest.toString().matches("(?s).*[A-Za-z0-9].*")) tell("has no case");
    }
}
