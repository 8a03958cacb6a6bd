/** Each promise of the document by itself: ordinary calls, the edges that it names, wrong calls. */
public final class PromisesTest {
    private static final int BAD = -1, NO = -2, FULL = -3, NONE = -4;
    private static final String FIRST =
        "yard 2,3;path 0,0,1;path 0,1,1,2;path 0,2,1,2,3;path 1,0,4,5;path 1,1,4;path 1,2,3;"
        + "come 0,1,10,20,1;come 1,0,12,18,9;come 0,0,15,25,1;come 1,1,22,30,0;span 1;";
    /** TRAIN 0 has but TRACK 0, the six others wish for it and fit TRACK 1 too. */
    private static final String SEVEN = "yard 2,2;path 0,0;path 0,1;path 1,0;come 1,1,5,40,9;come 0,0,6,6,0;come 0,0,8,8,0;"
        + "come 0,0,11,11,0;come 0,0,15,15,0;come 0,0,20,20,0;come 0,0,40,40,0;";
    private static int wrong = 0;
    private static int asked = 0;
    private static int promise = 0;

    private static void due(String call, int got, int want) {
        asked++;
        if (got != want) {
            wrong++;
            System.out.println("promise " + promise + ": " + call + " answered " + got + ", due is " + want);
        }
    }

    private static void write(ThroatTracks x, String text) {
        for (int k = 0; k < text.length(); k++) x.write(text.charAt(k));
    }

    private static ThroatTracks laid(String text) {
        ThroatTracks x = new ThroatTracks();
        write(x, text);
        if (x.lay() < 0) {
            wrong++;
            System.out.println("promise " + promise + ": not laid: " + text);
        }
        return x;
    }

    private static int faultOf(String text) {
        ThroatTracks x = new ThroatTracks();
        write(x, text);
        return x.fault();
    }

    public static void main(String[] args) {
        newObject();
        writing();
        wiping();
        faults();
        faultsOfTrains();
        laying();
        routes();
        trains();
        giving();
        taking();
        whys();
        clashesOnTracks();
        clashesOnSwitches();
        lateness();
        wishes();
        bestWays();
        nearestWays();
        adopting();
        withoutSwitch();
        undoing();
        onTracks();
        takenSwitches();
        uses();
        counts();
        orderOfRefusals();
        System.out.println("promises: " + asked + " calls, " + wrong + " wrong");
        if (wrong != 0) System.exit(1);
    }

    private static void newObject() {
        promise = 1;
        ThroatTracks x = new ThroatTracks();
        int[] want = {2, 3, 4, 1, 0, 0, 0, 0};
        for (int k = 0; k < want.length; k++) due("count(" + k + ")", x.count(k), want[k]);
        ThroatTracks y = laid(FIRST);
        for (int i = 0; i < 4; i++) {
            for (int what = 0; what < 9; what++) due("train(" + i + ", " + what + ")", x.train(i, what), y.train(i, what));
        }
        for (int line = 0; line < 2; line++) {
            for (int track = 0; track < 3; track++) due("route", x.route(line, track), y.route(line, track));
        }
        due("undo()", x.undo(), NO);
        due("lay() of the empty text", x.lay(), NO);
        x.give(0, 0);
        due("count(4) of another object", new ThroatTracks().count(4), 0);
    }

    private static void writing() {
        promise = 2;
        ThroatTracks x = new ThroatTracks();
        due("write(31)", x.write(31), BAD);
        due("write(127)", x.write(127), BAD);
        due("write(-1)", x.write(-1), BAD);
        due("write(65568)", x.write(65536 + 32), BAD);
        due("write(32)", x.write(32), 1);
        due("write(126)", x.write(126), 2);
        for (int k = 3; k <= 200; k++) due("write", x.write(';'), k);
        due("write at 200", x.write(';'), FULL);
        due("write bad at 200", x.write(127), BAD);
        due("count(7)", x.count(7), 200);
    }

    private static void wiping() {
        promise = 3;
        ThroatTracks x = new ThroatTracks();
        due("wipe()", x.wipe(), 0);
        write(x, "abc");
        due("wipe()", x.wipe(), 3);
        due("wipe()", x.wipe(), 0);
        due("count(7)", x.count(7), 0);
        write(x, "yard 1,1;");
        due("lay()", x.lay(), 0);
        due("wipe()", x.wipe(), 9);
        due("count(0) stays", x.count(0), 1);
    }

    private static void faults() {
        promise = 4;
        String[] fine = {"", "yard 1,1;", "yard 3,4;", "yard 03,04;", FIRST, "yard 1,1;path 0,0;", "yard 1,1;path 0,0,0,1,10,11;",
            "yard 1,1;path 0,0,7,7;", "yard 1,1;span 0;", "yard 1,1;span 9;span 09;span 0;", "yard 2,2;path 1,0;path 0,1;path 0,0;"};
        for (String text : fine) due("fault() of " + text, faultOf(text), NONE);
        String[] first = {"y", "yard", "yard ", "yard 1", "yard 1,", "yard 1,1", "yard 1,1,", "yard;", "yard ;", "yard 1;", "yard 1,1,1;",
            " yard 1,1;", "yard  1,1;", "yard 1, 1;", "yard 1,1 ;", "Yard 1,1;", "yard1,1;", "yard 0,1;", "yard 4,1;", "yard 1,0;", "yard 1,5;",
            "yard 001,1;", "yard ,1;", "yard 1,,1;", "yard -1,1;", "yard 1;1;", ";", ";yard 1,1;", "span 1;yard 1,1;", "span 1;", "path 0,0;",
            "come 0,0,1,1,9;", "pair 0,1;", "yards 1,1;", "gard 1,1;"};
        for (String text : first) due("fault() of " + text, faultOf(text), 0);
        String[] second = {"yard 1,1;", " ", ";", "span", "span 1", "span 1,1;", "span 10;", "span 100;", "span ;", "span;", "path 0;",
            "path 1,0;", "path 0,1;", "path 0,0,12;", "path 0,0,1,2,3,4,5;", "path 0,0,;", "path 0,0", "path 0,0,1,99;", "spam 1;", "span x;"};
        for (String item : second) due("fault() of second " + item, faultOf("yard 1,1;" + item), 9);
        due("path twice", faultOf("yard 1,1;path 0,0;path 0,0;"), 18);
        due("path twice with switches", faultOf("yard 1,2;path 0,1,3;path 0,1,4;"), 20);
        due("the first of two", faultOf("yard 1,1;span 1;span 10;bad"), 16);
        due("long texts", faultOf(FIRST + "span 1;span 1;span 1;span 1;span 1;s"), 193);
        due("200 letters", faultOf(FIRST + "span 1;span 1;span 1;span 1;span 1;span 1;"), NONE);
    }

    private static void faultsOfTrains() {
        promise = 4;
        String yard = "yard 2,2;";
        String[] fine = {"come 0,0,1,1,9;", "come 1,1,98,98,1;", "come 0,1,1,98,0;", "come 00,01,05,06,09;"};
        for (String item : fine) due("fault() of " + item, faultOf(yard + item), NONE);
        String[] bad = {"come 2,0,1,1,9;", "come 0,2,1,1,9;", "come 0,0,0,1,9;", "come 0,0,2,1,9;", "come 0,0,1,99,9;", "come 0,0,99,99,9;",
            "come 0,0,1,1,2;", "come 0,0,1,1,8;", "come 0,0,1,1,10;", "come 0,0,1,1;", "come 0,0,1,1,9,9;", "come 0,0,1,1,9,9,9;", "pair 0,1;"};
        for (String item : bad) due("fault() of " + item, faultOf(yard + item), 9);
        String four = yard + "come 0,0,1,1,9;come 0,0,2,2,9;come 0,0,3,3,9;come 0,0,4,4,9;";
        due("pairs", faultOf(four + "pair 0,1;pair 3,2;"), NONE);
        String[] noPairs = {"pair 0,0;", "pair 0,4;", "pair 4,0;", "pair 0;", "pair 0,1,2;", "pair 0,1"};
        for (String item : noPairs) due("fault() of " + item, faultOf(four + item), four.length());
        due("coupled yet", faultOf(four + "pair 0,1;pair 1,2;"), four.length() + 9);
        due("coupled yet, behind", faultOf(four + "pair 0,1;pair 2,0;"), four.length() + 9);
        due("a pair twice", faultOf(four + "pair 0,1;pair 0,1;"), four.length() + 9);
        due("told behind", faultOf("yard 1,1;come 0,0,1,1,9;pair 0,1;come 0,0,1,1,9;"), 24);
        String seven = four + "come 0,0,5,5,9;come 0,0,6,6,9;come 0,0,7,7,9;";
        due("seven trains", faultOf(seven), NONE);
        due("eight trains", faultOf(seven + "come 0,0,8,8,9;"), seven.length());
        due("items may mix", faultOf("yard 1,1;come 0,0,1,1,9;span 3;path 0,0;come 0,0,3,3,0;pair 1,0;span 4;"), NONE);
    }

    private static void laying() {
        promise = 5;
        ThroatTracks x = new ThroatTracks();
        due("give", x.give(0, 1), 1);
        due("lay() of nothing", x.lay(), NO);
        write(x, "yard 1,1;path 0,0;come 0,0,5,6,0");
        due("lay() unfinished", x.lay(), NO);
        due("places stay", x.count(4), 1);
        due("past stays", x.count(6), 1);
        due("the yard stays", x.count(2), 4);
        write(x, ";");
        due("lay()", x.lay(), 1);
        due("the text stays", x.count(7), 33);
        due("nothing to undo", x.undo(), NO);
        due("no places", x.count(4), 0);
        due("gap is 1 without", x.count(3), 1);
        due("give", x.give(0, 0), 1);
        due("late", x.late(0, 5), 0);
        due("lay() again", x.lay(), 1);
        due("place gone", x.train(0, 6), NONE);
        due("arrives as told", x.train(0, 2), 5);
        due("count(6)", x.count(6), 0);
        due("the last gap counts", laid("yard 1,1;span 7;span 0;").count(3), 0);
        ThroatTracks y = laid("yard 1,1;span 7;");
        y.wipe();
        write(y, "yard 2,1;");
        due("lay() without trains", y.lay(), 0);
        due("gap anew", y.count(3), 1);
        y.wipe();
        write(y, "span 1;");
        due("lay() without a yard", y.lay(), NO);
    }

    private static void routes() {
        promise = 6;
        ThroatTracks x = laid("yard 3,4;path 2,3,0,11,5,4;path 0,0;path 1,2,7,7;");
        due("route(2, 3)", x.route(2, 3), 1 | 1 << 11 | 1 << 5 | 1 << 4);
        due("route(0, 0)", x.route(0, 0), 0);
        due("route(1, 2)", x.route(1, 2), 1 << 7);
        due("route(0, 1)", x.route(0, 1), NONE);
        due("route(1, 3)", x.route(1, 3), NONE);
        due("route(3, 0)", x.route(3, 0), BAD);
        due("route(0, 4)", x.route(0, 4), BAD);
        due("route(-1, 0)", x.route(-1, 0), BAD);
        due("route(0, -1)", x.route(0, -1), BAD);
        ThroatTracks y = laid("yard 1,1;");
        due("route(0, 1) where it is not told", y.route(0, 1), BAD);
        due("route(1, 0) where it is not told", y.route(1, 0), BAD);
    }

    private static void trains() {
        promise = 7;
        ThroatTracks x = laid("yard 2,3;path 0,0;path 0,1;path 1,1;path 1,2;come 0,1,3,9,2;come 1,0,9,9,9;come 0,0,30,40,0;pair 1,0;");
        int[][] want = {{0, 1, 3, 9, 2, 1, NONE, 2, 1}, {1, 0, 9, 9, NONE, 0, NONE, 2, 1}, {0, 0, 30, 40, 0, NONE, NONE, 3, 2}};
        for (int i = 0; i < 3; i++) {
            for (int what = 0; what < 9; what++) due("train(" + i + ", " + what + ")", x.train(i, what), want[i][what]);
        }
        due("train(3, 0)", x.train(3, 0), BAD);
        due("train(-1, 0)", x.train(-1, 0), BAD);
        due("train(0, 9)", x.train(0, 9), BAD);
        due("train(0, -1)", x.train(0, -1), BAD);
        x.give(0, 1);
        due("its track", x.train(0, 6), 1);
        due("hard with one", x.train(0, 8), 1);
        due("hard of its mate", x.train(1, 8), 1);
        ThroatTracks y = laid("yard 1,2;path 0,0;path 0,1;come 0,0,5,9,9;come 0,0,7,8,9;come 0,0,9,9,9;");
        y.give(0, 0);
        due("hard, one taken", y.train(1, 8), 1);
        y.give(1, 1);
        due("hard, behind 1 on 1", y.train(2, 8), 1);
        due("hard of 0", y.train(0, 8), 1);
        y.take(0);
        due("hard, 0 gone", y.train(2, 8), 2);
    }

    private static void giving() {
        promise = 8;
        ThroatTracks x = laid("yard 2,2;path 0,0;path 0,1,3;path 1,1,3;come 0,1,10,20,0;come 0,0,10,20,9;come 0,0,12,14,9;");
        due("give(0, 0) has no route out", x.give(0, 0), NO);
        due("count(6)", x.count(6), 0);
        due("give(0, 1)", x.give(0, 1), 1);
        due("give(0, 1) again", x.give(0, 1), NO);
        due("give(1, 1)", x.give(1, 1), NO);
        due("give(1, 0)", x.give(1, 0), 2);
        due("give(2, 0)", x.give(2, 0), NO);
        due("give(2, 1)", x.give(2, 1), NO);
        due("give(3, 0)", x.give(3, 0), BAD);
        due("give(-1, 0)", x.give(-1, 0), BAD);
        due("give(2, 2)", x.give(2, 2), BAD);
        due("give(0, -1) has one", x.give(0, -1), BAD);
        due("count(6)", x.count(6), 2);
        due("count(4)", x.count(4), 2);
    }

    private static void taking() {
        promise = 9;
        ThroatTracks x = new ThroatTracks();
        due("take(0)", x.take(0), NO);
        due("take(4)", x.take(4), BAD);
        due("take(-1)", x.take(-1), BAD);
        x.give(0, 2);
        due("take(0)", x.take(0), 2);
        due("train(0, 6)", x.train(0, 6), NONE);
        due("take(0) again", x.take(0), NO);
        due("count(6)", x.count(6), 2);
    }

    private static void whys() {
        promise = 10;
        ThroatTracks x = laid("yard 2,3;path 0,0;path 1,1;path 0,2;path 1,2;come 0,1,5,9,9;come 1,0,5,9,9;come 1,0,6,9,9;come 0,1,7,9,9;come 0,0,9,9,9;");
        due("why(0, 0): none out", x.why(0, 0), 2);
        due("why(0, 1): none in", x.why(0, 1), 1);
        due("why(1, 0): none in", x.why(1, 0), 1);
        due("why(4, 1): neither", x.why(4, 1), 1);
        due("why(3, 2)", x.why(3, 2), 0);
        x.give(2, 2);
        due("why(3, 2)", x.why(3, 2), 5);
        due("why(0, 2)", x.why(0, 2), 5);
        due("why(2, 2): has it", x.why(2, 2), 0);
        due("why(5, 0)", x.why(5, 0), BAD);
        due("why(0, 3)", x.why(0, 3), BAD);
        due("why(-1, 0)", x.why(-1, 0), BAD);
        due("why(0, -1)", x.why(0, -1), BAD);
        ThroatTracks y = laid("yard 1,3;path 0,0,1;path 0,1,2;path 0,2,1,2;come 0,0,5,9,9;come 0,0,5,9,9;come 0,0,5,9,9;");
        y.give(1, 1);
        y.give(0, 0);
        due("the lowest of two", y.why(2, 2), 3);
        due("the other one", y.why(2, 1), 4);
        due("has another one", y.why(0, 2), 4);
        y.take(1);
        due("has one, could have another", y.why(0, 2), 0);
    }

    private static void clashesOnTracks() {
        promise = 11;
        String yard = "yard 1,2;path 0,0;path 0,1;come 0,0,10,20,9;come 0,0,21,25,9;come 0,0,23,30,9;come 0,0,5,9,9;come 0,0,20,22,9;";
        for (int gap = 0; gap <= 9; gap++) {
            ThroatTracks x = laid(yard + "span " + gap + ";");
            due("leaves 9, arrives 10, gap " + gap, x.clash(0, 0, 3, 0), gap <= 1 ? 0 : 1);
            due("the same turned round", x.clash(3, 0, 0, 0), gap <= 1 ? 0 : 1);
            due("leaves 20, arrives 21, gap " + gap, x.clash(0, 1, 1, 1), gap <= 1 ? 0 : 1);
            due("leaves 20, arrives 23, gap " + gap, x.clash(0, 0, 2, 0), gap <= 3 ? 0 : 1);
            due("leaves 20, arrives 20, gap " + gap, x.clash(0, 0, 4, 0), 1);
            due("within, gap " + gap, x.clash(1, 0, 2, 0), 1);
            due("other tracks, gap " + gap, x.clash(1, 0, 2, 1), 0);
        }
        ThroatTracks y = laid(yard + "pair 1,2;");
        due("coupled on one track", y.clash(1, 0, 2, 0), 0);
        due("not coupled", y.clash(0, 0, 4, 0), 1);
        due("clash(0, 0, 0, 1)", y.clash(0, 0, 0, 1), BAD);
        due("clash(5, 0, 0, 0)", y.clash(5, 0, 0, 0), BAD);
        due("clash(0, 0, 5, 0)", y.clash(0, 0, 5, 0), BAD);
        due("clash(-1, 0, 0, 0)", y.clash(-1, 0, 0, 0), BAD);
        due("clash(0, 0, -1, 0)", y.clash(0, 0, -1, 0), BAD);
        due("clash(0, 2, 1, 0)", y.clash(0, 2, 1, 0), BAD);
        due("clash(0, 0, 1, 2)", y.clash(0, 0, 1, 2), BAD);
        due("clash(0, -1, 1, 0)", y.clash(0, -1, 1, 0), BAD);
        due("clash(0, 0, 1, -1)", y.clash(0, 0, 1, -1), BAD);
    }

    private static void clashesOnSwitches() {
        promise = 11;
        String yard = "yard 2,2;path 0,0,1;path 1,0,2;path 0,1,1;path 1,1,3;";
        int[] near = {0, 0, 1, 1, 1, 0, 0};
        for (int k = 0; k < 7; k++) {
            int p = 47 + k;
            ThroatTracks x = laid(yard + "come 0,1,50,60,9;come 0,1," + p + ",70,9;");
            due("in and in, arrives " + p, x.clash(0, 0, 1, 1), 2 * near[k]);
            ThroatTracks y = laid(yard + "come 1,0,40,50,9;come 1,0,30," + p + ",9;");
            due("out and out, leaves " + p, y.clash(0, 0, 1, 1), 2 * near[k]);
            ThroatTracks z = laid(yard + "come 1,0,40,50,9;come 0,1," + (p + 1) + ",70,9;");
            due("out and in, arrives " + (p + 1), z.clash(0, 0, 1, 1), 2 * near[k]);
            due("in and out, arrives " + (p + 1), z.clash(1, 1, 0, 0), 2 * near[k]);
        }
        ThroatTracks x = laid(yard + "come 0,0,10,20,9;come 0,0,10,20,9;come 1,1,10,20,9;come 0,0,21,30,9;pair 0,1;");
        due("coupled, one track", x.clash(0, 0, 1, 0), 0);
        due("coupled, two tracks", x.clash(0, 0, 1, 1), 2);
        due("other switches", x.clash(0, 0, 2, 1), 0);
        due("on the track alone", x.clash(0, 0, 2, 0), 1);
        due("on a switch alone", x.clash(0, 0, 3, 0), 2);
        ThroatTracks y = laid(yard + "come 0,0,10,20,9;come 0,0,10,20,9;span 0;");
        due("both", y.clash(0, 0, 1, 0), 3);
        ThroatTracks z = laid("yard 2,2;path 0,0,1;path 1,0,1;path 0,1,1;come 0,0,10,20,9;come 0,1,10,20,9;");
        due("the other's does not fit", z.clash(0, 0, 1, 1), 0);
        due("the one's does not fit", z.clash(1, 1, 0, 1), 0);
        due("both fit", z.clash(1, 0, 0, 1), 2);
        z.give(0, 1);
        due("as if, whatever stands", z.clash(1, 0, 0, 0), 3);
    }

    private static void lateness() {
        promise = 12;
        ThroatTracks x = laid("yard 1,2;path 0,0,1;path 0,1,2;come 0,0,21,30,9;come 0,0,40,50,9;come 0,0,1,98,9;come 0,0,30,38,9;");
        due("late(0, 0)", x.late(0, 0), BAD);
        due("late(0, -21)", x.late(0, -21), BAD);
        due("late(0, 61)", x.late(0, 61), BAD);
        due("late(4, 1)", x.late(4, 1), BAD);
        due("late(-1, 1)", x.late(-1, 1), BAD);
        due("late(2, 1)", x.late(2, 1), NO);
        due("late(2, -1)", x.late(2, -1), NO);
        due("late(1, 49)", x.late(1, 49), NO);
        due("count(6)", x.count(6), 0);
        due("late(1, 48)", x.late(1, 48), 0);
        due("train(1, 3)", x.train(1, 3), 98);
        due("train(1, 2)", x.train(1, 2), 88);
        due("undo()", x.undo(), 0);
        due("late(0, -20)", x.late(0, -20), 0);
        due("train(0, 2)", x.train(0, 2), 1);
        due("late(0, -1)", x.late(0, -1), NO);
        due("late(0, 60)", x.late(0, 60), 0);
        due("train(0, 3)", x.train(0, 3), 70);
        due("give(0, 0)", x.give(0, 0), 1);
        due("give(1, 0)", x.give(1, 0), 2);
        due("late(1, 8): near", x.late(1, 8), 0);
        due("its track stays", x.train(1, 6), 0);
        due("late(1, 1): on a switch", x.late(1, 1), 1);
        due("it has none", x.train(1, 6), NONE);
        due("the other stays", x.train(0, 6), 0);
        due("late(1, 1) without one", x.late(1, 1), 0);
        due("give(3, 1)", x.give(3, 1), 2);
        due("late(3, 26): other track", x.late(3, 26), 0);
        due("it has it yet", x.train(3, 6), 1);
        ThroatTracks y = laid("yard 1,1;path 0,0,1;come 0,0,10,12,9;come 0,0,30,32,9;pair 0,1;");
        y.give(0, 0);
        y.give(1, 0);
        due("late beside its mate", y.late(0, 20), 0);
        due("train(0, 6)", y.train(0, 6), 0);
    }

    private static void wishes() {
        promise = 13;
        ThroatTracks x = new ThroatTracks();
        due("wish(0, 1): it does", x.wish(0, 1), NO);
        due("wish(1, 9): it does", x.wish(1, 9), NO);
        due("count(6)", x.count(6), 0);
        due("wish(0, 2)", x.wish(0, 2), 1);
        due("train(0, 4)", x.train(0, 4), 2);
        due("wish(0, 9)", x.wish(0, 9), 2);
        due("train(0, 4)", x.train(0, 4), NONE);
        due("wish(1, 0)", x.wish(1, 0), 9);
        due("wish(1, 3)", x.wish(1, 3), BAD);
        due("wish(1, 10)", x.wish(1, 10), BAD);
        due("wish(1, -1)", x.wish(1, -1), BAD);
        due("wish(1, -4)", x.wish(1, -4), BAD);
        due("wish(4, 0)", x.wish(4, 0), BAD);
        due("wish(-1, 9)", x.wish(-1, 9), BAD);
        due("count(6)", x.count(6), 3);
        ThroatTracks y = laid("yard 1,2;path 0,0;come 0,0,1,2,9;");
        due("a track that does not fit", y.wish(0, 1), 9);
        due("train(0, 4)", y.train(0, 4), 1);
    }

    private static void bestWays() {
        promise = 14;
        ThroatTracks x = laid("yard 1,3;path 0,0;path 0,1;path 0,2;come 0,0,5,9,9;come 0,0,5,9,0;come 0,0,5,9,0;come 0,0,5,9,2;");
        int[] want = {1, 0, NONE, 2};
        for (int i = 0; i < 4; i++) due("way(0, " + i + ")", x.way(0, i), want[i]);
        due("way(0, -1)", x.way(0, -1), 1);
        due("way(0, -2)", x.way(0, -2), 2);
        due("way(0, -3)", x.way(0, -3), 3);
        due("nothing changes", x.count(4) + x.count(6), 0);
        x.give(2, 0);
        due("whatever stands", x.way(0, 1), 0);
        due("way(0, -3) then", x.way(0, -3), 4);
        due("way(2, 0)", x.way(2, 0), BAD);
        due("way(-1, 0)", x.way(-1, 0), BAD);
        due("way(0, 4)", x.way(0, 4), BAD);
        due("way(0, -4)", x.way(0, -4), BAD);
        ThroatTracks y = laid("yard 2,2;path 0,0;path 1,1;come 0,1,5,9,0;come 1,1,5,9,0;come 1,1,7,9,1;");
        due("no track fits", y.way(0, 0), NONE);
        due("not the first of the two", y.way(0, 1), NONE);
        due("a wish decides, though behind", y.way(0, -2), 1);
        due("the wish met", y.way(0, 2), 1);
        ThroatTracks z = laid("yard 1,1;");
        due("without trains", z.way(0, -1) + z.way(0, -2) + z.way(0, -3), 0);
        due("way(0, 0) without trains", z.way(0, 0), BAD);
        ThroatTracks v = laid("yard 1,2;path 0,0;path 0,1;come 0,0,5,9,0;come 0,0,5,9,0;come 0,0,5,9,1;pair 0,1;");
        due("coupled ones share", v.way(0, -1) * 10 + v.way(0, -2), 3);
        ThroatTracks u = laid("yard 1,1;path 0,0;come 0,0,5,20,0;come 0,0,5,6,9;come 0,0,9,10,9;");
        due("fewest without, ahead of wishes", u.way(0, 0), NONE);
        due("way(0, -2)", u.way(0, -2), 0);
        ThroatTracks w = laid(SEVEN);
        due("fewest without, ahead of six wishes", w.way(0, -1) * 10 + w.way(0, -2), 0);
        due("the first on 0", w.way(0, 0), 0);
    }

    private static void nearestWays() {
        promise = 14;
        ThroatTracks x = laid("yard 1,2;path 0,0;path 0,1;come 0,0,5,9,0;come 0,0,5,9,1;come 0,0,6,9,9;");
        x.give(1, 0);
        x.give(2, 1);
        int[] want = {NONE, 0, 1};
        for (int i = 0; i < 3; i++) due("way(1, " + i + ")", x.way(1, i), want[i]);
        due("way(1, -1)", x.way(1, -1), 1);
        due("way(1, -2)", x.way(1, -2), 0);
        due("way(1, -3)", x.way(1, -3), 0);
        x.take(2);
        due("one more: the first", x.way(1, 0), 1);
        due("way(1, -3)", x.way(1, -3), 1);
        due("way(1, 2)", x.way(1, 2), NONE);
        due("way(1, 3)", x.way(1, 3), BAD);
        due("way(1, -4)", x.way(1, -4), BAD);
        ThroatTracks y = laid("yard 1,1;path 0,0;come 0,0,5,20,0;come 0,0,5,6,9;come 0,0,9,10,9;");
        y.give(0, 0);
        due("fewest without, ahead of changes", y.way(1, 0), NONE);
        due("all three otherwise", y.way(1, -3), 3);
        ThroatTracks z = laid(SEVEN);
        for (int i = 1; i < 7; i++) due("give(" + i + ", 0)", z.give(i, 0), i);
        due("fewest without, ahead of seven changes", z.way(1, -1) * 10 + z.way(1, -3), 7);
    }

    private static void adopting() {
        promise = 15;
        ThroatTracks x = new ThroatTracks();
        due("adopt(2)", x.adopt(2), BAD);
        due("adopt(-1)", x.adopt(-1), BAD);
        due("count(6)", x.count(6), 0);
        due("adopt(0)", x.adopt(0), 4);
        int[] want = {2, 0, 1, 0};
        for (int i = 0; i < 4; i++) due("train(" + i + ", 6)", x.train(i, 6), want[i]);
        due("adopt(0) again", x.adopt(0), 0);
        due("a change all the same", x.count(6), 2);
        due("adopt(1)", x.adopt(1), 0);
        due("undo()", x.undo(), 2);
        due("undo()", x.undo(), 1);
        due("undo()", x.undo(), 0);
        due("count(4)", x.count(4), 0);
        due("adopt(1)", x.adopt(1), 4);
        due("train(0, 6)", x.train(0, 6), 0);
    }

    private static void withoutSwitch() {
        promise = 16;
        ThroatTracks x = laid("yard 2,2;path 0,0,1,2;path 0,1,3;path 1,0,11;come 0,0,10,20,9;come 0,1,15,25,9;come 1,0,40,41,9;");
        int[] want = {0, 2, 2, 1, 0, 0, 0, 0, 0, 0, 0, 2};
        for (int s = 0; s < 12; s++) due("without(" + s + ")", x.without(s), want[s]);
        due("without(12)", x.without(12), BAD);
        due("without(-1)", x.without(-1), BAD);
        x.give(2, 0);
        due("whatever stands", x.without(11), 2);
        due("routes stay", x.route(1, 0), 2048);
        due("places stay", x.train(2, 6), 0);
        due("no change", x.count(6), 1);
        due("the best way is as it was", x.way(0, -1), 0);
        due("one that has none in any case", laid("yard 2,1;path 0,0,5;come 0,0,1,1,9;come 1,0,9,9,9;").without(4), 1);
    }

    private static void undoing() {
        promise = 17;
        ThroatTracks x = new ThroatTracks();
        due("undo()", x.undo(), NO);
        x.give(0, 1);
        x.late(1, 3);
        x.wish(2, 0);
        x.adopt(0);
        x.take(0);
        x.late(0, -2);
        due("count(6)", x.count(6), 6);
        due("undo late", x.undo(), 5);
        due("train(0, 2)", x.train(0, 2), 10);
        due("undo take", x.undo(), 4);
        due("count(4)", x.count(4), 4);
        due("undo adopt", x.undo(), 3);
        due("count(4)", x.count(4), 1);
        due("train(0, 6)", x.train(0, 6), 1);
        due("undo wish", x.undo(), 2);
        due("train(2, 4)", x.train(2, 4), 1);
        due("undo late", x.undo(), 1);
        due("train(1, 2)", x.train(1, 2), 12);
        due("clash as it was", x.clash(0, 0, 1, 0), 1);
        due("undo give", x.undo(), 0);
        due("train(0, 6)", x.train(0, 6), NONE);
        due("undo()", x.undo(), NO);
        for (int k = 0; k < 9; k++) x.late(3, 1);
        due("six at most", x.count(6), 6);
        for (int k = 5; k >= 0; k--) due("undo()", x.undo(), k);
        due("undo()", x.undo(), NO);
        due("three are left", x.train(3, 2), 25);
        x.late(3, 1);
        x.undo();
        x.late(3, 5);
        due("count(6)", x.count(6), 1);
        due("undo()", x.undo(), 0);
        due("train(3, 2)", x.train(3, 2), 25);
        ThroatTracks y = laid("yard 1,1;path 0,0,1;come 0,0,10,12,9;come 0,0,20,22,9;");
        y.give(0, 0);
        y.give(1, 0);
        due("late(1, -9)", y.late(1, -9), 1);
        due("undo()", y.undo(), 2);
        due("its track is back", y.train(1, 6), 0);
        due("its minute is back", y.train(1, 2), 20);
        due("no clash any more", y.why(1, 0), 0);
    }

    private static void onTracks() {
        promise = 18;
        ThroatTracks x = laid("yard 1,2;path 0,0;path 0,1;come 0,0,1,5,9;come 0,0,3,98,9;come 0,0,7,7,9;pair 0,1;");
        x.give(0, 0);
        x.give(1, 0);
        x.give(2, 1);
        int[] minutes = {0, 1, 2, 3, 5, 6, 98, 99};
        int[] want = {0, 1, 1, 3, 3, 2, 2, 0};
        for (int k = 0; k < minutes.length; k++) due("on(0, " + minutes[k] + ")", x.on(0, minutes[k]), want[k]);
        due("on(1, 6)", x.on(1, 6), 0);
        due("on(1, 7)", x.on(1, 7), 4);
        due("on(1, 8)", x.on(1, 8), 0);
        due("on(2, 0)", x.on(2, 0), BAD);
        due("on(-1, 0)", x.on(-1, 0), BAD);
        due("on(-4, 0)", x.on(-4, 0), BAD);
        due("on(0, 100)", x.on(0, 100), BAD);
        due("on(0, -1)", x.on(0, -1), BAD);
        x.take(0);
        due("on(0, 3)", x.on(0, 3), 2);
    }

    private static void takenSwitches() {
        promise = 19;
        ThroatTracks x = laid("yard 2,2;path 0,0,0,3;path 1,0,11;path 0,1;path 1,1,5;come 0,1,1,98,9;come 1,1,50,50,9;");
        due("taken(0), none placed", x.taken(0), 0);
        x.give(0, 0);
        x.give(1, 1);
        int[] minutes = {0, 1, 2, 48, 49, 50, 51, 52, 97, 98, 99};
        int[] want = {9, 9, 0, 0, 32, 32, 32, 0, 0, 2048, 2048};
        for (int k = 0; k < minutes.length; k++) due("taken(" + minutes[k] + ")", x.taken(minutes[k]), want[k]);
        due("taken(100)", x.taken(100), BAD);
        due("taken(-1)", x.taken(-1), BAD);
        ThroatTracks y = laid("yard 2,1;path 0,0,1;path 1,0,2;come 0,1,30,30,9;");
        y.give(0, 0);
        int[] both = {0, 2, 6, 4, 0};
        for (int k = 0; k < 5; k++) due("taken(" + (28 + k) + ")", y.taken(28 + k), both[k]);
    }

    private static void uses() {
        promise = 20;
        ThroatTracks x = laid("yard 2,2;path 0,0,0;path 1,0,11;path 0,1;path 1,1,5;come 0,1,1,5,9;come 0,1,3,98,9;come 1,1,50,51,9;pair 0,1;");
        due("use(0, 0), none placed", x.use(0, 0), 0);
        x.give(0, 0);
        x.give(1, 0);
        x.give(2, 1);
        due("use(0, 0): a minute once", x.use(0, 0), 98);
        due("use(0, 1)", x.use(0, 1), 2);
        due("use(1, 0)", x.use(1, 0), 4);
        due("use(1, 11)", x.use(1, 11), 4);
        due("use(1, 5): one minute for both", x.use(1, 5), 4);
        due("use(1, 4)", x.use(1, 4), 0);
        due("use(0, 2)", x.use(0, 2), BAD);
        due("use(0, -1)", x.use(0, -1), BAD);
        due("use(1, 12)", x.use(1, 12), BAD);
        due("use(1, -1)", x.use(1, -1), BAD);
        due("use(2, 0)", x.use(2, 0), BAD);
        due("use(-1, 0)", x.use(-1, 0), BAD);
        x.take(2);
        due("use(1, 5)", x.use(1, 5), 0);
    }

    private static void counts() {
        promise = 21;
        ThroatTracks x = laid("yard 3,4;path 0,0;path 0,1;come 0,0,1,5,0;come 0,0,2,5,0;come 0,0,7,9,9;span 2;");
        x.give(0, 0);
        x.give(1, 1);
        x.give(2, 0);
        int[] want = {3, 4, 3, 2, 3, 1, 3, 79};
        for (int k = 0; k < 8; k++) due("count(" + k + ")", x.count(k), want[k]);
        due("count(8)", x.count(8), BAD);
        due("count(-1)", x.count(-1), BAD);
        x.wish(1, 1);
        due("count(5)", x.count(5), 2);
        x.wish(1, 9);
        due("count(5)", x.count(5), 1);
        due("count(6)", x.count(6), 5);
        x.take(1);
        due("count(4)", x.count(4), 2);
        due("count(5): none is no wish", x.count(5), 1);
    }

    private static void orderOfRefusals() {
        promise = 2;
        ThroatTracks x = new ThroatTracks();
        x.give(0, 1);
        int[] far = {Integer.MIN_VALUE, -1000, 1000, Integer.MAX_VALUE};
        for (int n : far) {
            due("write(" + n + ")", x.write(n), BAD);
            due("route", x.route(n, 0) + x.route(0, n) + x.route(n, n), 3 * BAD);
            due("train", x.train(n, 0) + x.train(0, n), 2 * BAD);
            due("give", x.give(n, 0) + x.give(0, n), 2 * BAD);
            due("take", x.take(n), BAD);
            due("why", x.why(n, 0) + x.why(0, n), 2 * BAD);
            due("clash", x.clash(n, 0, 1, 0) + x.clash(0, n, 1, 0) + x.clash(0, 0, n, 0) + x.clash(0, 0, 1, n), 4 * BAD);
            due("late", x.late(n, 1) + x.late(0, n), 2 * BAD);
            due("wish", x.wish(n, 1) + x.wish(0, n), 2 * BAD);
            due("way", x.way(n, 0) + x.way(0, n) + x.way(1, n), 3 * BAD);
            due("adopt", x.adopt(n), BAD);
            due("without", x.without(n), BAD);
            due("on", x.on(n, 10) + x.on(1, n), 2 * BAD);
            due("taken", x.taken(n), BAD);
            due("use", x.use(n, 0) + x.use(0, n) + x.use(1, n), 3 * BAD);
            due("count", x.count(n), BAD);
        }
        due("nothing has changed", x.count(4) * 10 + x.count(6), 11);
    }
}
