/** The edges of WAYS: best and nearest, adopted, without a SWITCH, and what can be UNDONE. */
final class EdgesOfWays {
    private static final String FAR = "2147483647";
    private static final String LOW = "-2147483648";
    private static final String ONE = "yard 1,1;path 0,0;";
    private static final String TWO = "yard 1,2;path 0,0;path 0,1;";
    private static final String FOUR = "yard 1,4;path 0,0;path 0,1;path 0,2;path 0,3;";
    /** TRAIN 0 has but TRACK 0, which the six others wish for; they fit TRACK 1 too. */
    private static final String WISHED_BY_SIX = "yard 2,2;path 0,0;path 0,1;path 1,0;come 1,1,5,40,9;come 0,0,6,6,0;come 0,0,8,8,0;"
        + "come 0,0,11,11,0;come 0,0,15,15,0;come 0,0,20,20,0;come 0,0,40,40,0;";
    /** The same with the one that has but TRACK 0 as the last one, so that the way without it comes first. */
    private static final String LAST_HAS_ONE = "yard 2,2;path 0,0;path 0,1;path 1,0;come 0,0,6,6,0;come 0,0,8,8,0;come 0,0,11,11,0;"
        + "come 0,0,15,15,0;come 0,0,20,20,0;come 0,0,40,40,0;come 1,1,5,40,9;";
    private final Cases c;

    EdgesOfWays(Cases cases) {
        c = cases;
    }

    void all() {
        ways();
        best();
        bestByWishes();
        nearest();
        asked();
        adopted();
        without();
        changes();
        undone();
    }

    private void ways() {
        c.of(0, "A WAY gives each TRAIN a TRACK or none, as PLACES may stand.");
        c.laid("yard 2,3;path 0,0;path 1,1;path 0,1;come 0,0,5,9,1;come 1,1,5,9,9;come 1,0,30,40,2;come 0,1,5,9,0;",
            "way(0,0)=0 way(0,1)=1 way(0,2)=1 way(0,3)=NONE way(1,0)=0 way(1,1)=1 way(1,2)=1 way(1,3)=NONE");
        c.laid("yard 1,2;path 0,0,5;path 0,1,5;come 0,0,5,9,0;come 0,0,5,9,1;", "way(0,0)=0 way(0,1)=NONE way(1,0)=0 way(1,1)=NONE");
        c.laid("yard 1,2;path 0,0,5;path 0,1,5;come 0,0,5,9,0;come 0,0,5,9,1;pair 0,1;", "way(0,0)=0 way(0,1)=0 way(1,0)=0 way(1,1)=0 way(0,-2)=1");
        c.laid(ONE + "come 0,0,5,9,9;come 0,0,17,20,9;span 9;", "way(0,0)=0 way(0,1)=NONE");
        c.laid(ONE + "come 0,0,5,9,9;come 0,0,18,20,9;span 9;", "way(0,0)=0 way(0,1)=0");
    }

    private void best() {
        c.of(0, "BEST WAY: that in which fewest TRAINS have none, of several the most have the TRACK that they WISH for, "
            + "of several the first (by TRAIN 0: TRACK 0, 1, .., none last; then by TRAIN 1, ..).");
        c.laid("yard 1,1;", "way(0,-1)=0 way(0,-2)=0 way(0,-3)=0 way(0,0)=BAD");
        c.laid(FOUR + "come 0,0,5,9,9;", "way(0,-1)=0 way(0,0)=0 wish(0,3)=9 way(0,0)=3 way(0,-2)=1");
        c.laid("yard 1,4;path 0,3;come 0,0,5,9,0;", "way(0,0)=3 way(0,-1)=0 way(0,-2)=0");
        c.laid("yard 1,1;" + "come 0,0,5,9,0;".repeat(7), "way(0,-1)=7 way(0,-2)=0 way(0,-3)=0 way(0,0)=NONE way(0,6)=NONE");
        c.laid(TWO + "come 0,0,5,9,9;".repeat(2), "way(0,0)=0 way(0,1)=1 way(0,-1)=0");
        c.laid(ONE + "come 0,0,5,9,9;".repeat(2), "way(0,0)=0 way(0,1)=NONE way(0,-1)=1");
        c.laid(TWO + "come 0,0,5,9,9;".repeat(3), "way(0,0)=0 way(0,1)=1 way(0,2)=NONE way(0,-1)=1");
        c.laid(FOUR + "come 0,0,5,9,9;".repeat(7), "way(0,0)=0 way(0,1)=1 way(0,2)=2 way(0,3)=3 way(0,4)=NONE way(0,5)=NONE way(0,6)=NONE way(0,-1)=3");
        c.laid(FOUR + "come 0,0,5,9,0;".repeat(4), "way(0,0)=0 way(0,1)=1 way(0,2)=2 way(0,3)=3 way(0,-2)=1");
        c.laid("yard 2,2;path 0,0;path 0,1;path 1,0;come 0,0,5,9,9;come 1,1,5,9,9;", "way(0,0)=1 way(0,1)=0 way(0,-1)=0");
        c.laid(TWO + "come 0,0,5,9,9;come 0,0,20,29,9;come 0,0,5,29,9;", "way(0,0)=0 way(0,1)=0 way(0,2)=1 way(0,-1)=0");
    }

    /** The same sentence: what WISHES decide and what they do not. */
    private void bestByWishes() {
        c.laid(ONE + "come 0,0,5,9,9;come 0,0,5,9,0;", "way(0,0)=NONE way(0,1)=0 way(0,-1)=1 way(0,-2)=1");
        c.laid(ONE + "come 0,0,5,20,0;come 0,0,5,6,9;come 0,0,9,10,9;", "way(0,0)=NONE way(0,1)=0 way(0,2)=0 way(0,-1)=1 way(0,-2)=0");
        c.laid(TWO + "come 0,0,5,9,9;come 0,0,5,9,0;", "way(0,0)=1 way(0,1)=0 way(0,-2)=1");
        c.laid(TWO + "come 0,0,5,9,1;come 0,0,5,9,1;", "way(0,0)=0 way(0,1)=1 way(0,-2)=1");
        c.laid(TWO + "come 0,0,5,9,9;come 0,0,5,9,0;come 0,0,5,9,1;", "way(0,0)=NONE way(0,1)=0 way(0,2)=1 way(0,-2)=2");
        c.laid(TWO + "come 0,0,5,9,1;come 0,0,5,9,0;", "way(0,0)=1 way(0,1)=0 way(0,-2)=2");
        c.laid(LAST_HAS_ONE, "way(0,0)=1 way(0,5)=1 way(0,6)=0 way(0,-1)=0 way(0,-2)=0");
        c.laid(WISHED_BY_SIX, "way(0,0)=0 way(0,1)=1 way(0,6)=1 way(0,-1)=0 way(0,-2)=0");
        c.laid(FOUR + "come 0,0,1,1,3;come 0,0,2,2,3;come 0,0,3,3,3;come 0,0,4,4,3;come 0,0,5,5,3;come 0,0,6,6,3;come 0,0,7,7,3;",
            "way(0,-1)=0 way(0,-2)=7 way(0,0)=3 way(0,6)=3 give(0,0)=1 way(0,0)=3 way(0,-3)=7");
    }

    private void nearest() {
        c.of(0, "NEAREST WAY: that in which fewest have none, of several the fewest have it otherwise than now, of several the first likewise.");
        c.laid("yard 1,1;", "way(1,-1)=0 way(1,-2)=0 way(1,-3)=0 way(1,0)=BAD");
        c.laid(TWO + "come 0,0,5,9,1;".repeat(2), "way(1,0)=0 way(1,1)=1 way(1,-3)=2 way(1,-2)=1 give(0,1)=1 way(1,0)=1 way(1,1)=0 way(1,-3)=1");
        c.laid(TWO + "come 0,0,5,9,0;", "give(0,1)=1 way(1,0)=1 way(1,-3)=0 way(1,-2)=0 way(0,0)=0 way(0,-3)=1");
        c.laid(ONE + "come 0,0,5,9,0;come 0,0,5,9,0;", "give(1,0)=1 way(1,0)=NONE way(1,1)=0 way(1,-1)=1 way(1,-3)=0");
        c.laid(ONE + "come 0,0,5,20,0;come 0,0,5,6,9;come 0,0,9,10,9;", "give(0,0)=1 way(1,0)=NONE way(1,1)=0 way(1,2)=0 way(1,-1)=1 way(1,-3)=3");
        c.laid(TWO + "come 0,0,5,9,9;".repeat(3), "give(2,0)=1 way(1,0)=1 way(1,1)=NONE way(1,2)=0 way(1,-1)=1 way(1,-3)=1");
        c.laid(TWO + "come 0,0,5,9,9;".repeat(3), "give(2,1)=1 give(1,0)=2 way(1,0)=NONE way(1,1)=0 way(1,2)=1 way(1,-3)=0");
        c.laid("yard 1,1;" + "come 0,0,5,9,0;".repeat(7), "way(1,-1)=7 way(1,-3)=0 way(1,6)=NONE");
        c.laid(WISHED_BY_SIX, "give(1,0)=1 give(2,0)=2 give(3,0)=3 give(4,0)=4 give(5,0)=5 give(6,0)=6 way(1,-1)=0 way(1,-3)=7 way(1,0)=0 way(1,6)=1");
        c.laid(LAST_HAS_ONE, "give(0,0)=1 give(1,0)=2 give(2,0)=3 give(3,0)=4 give(4,0)=5 give(5,0)=6 way(1,-1)=0 way(1,-3)=7 way(1,0)=1 way(1,6)=0");
        c.laid("yard 2,3;path 0,0;path 0,1;path 1,0;path 0,2;come 0,0,5,9,9;come 1,1,5,9,9;come 0,0,5,9,9;", "give(0,0)=1 give(2,2)=2"
            + " way(1,0)=1 way(1,1)=0 way(1,2)=2 way(1,-1)=0 way(1,-3)=2");
    }

    private void asked() {
        c.of(14, "BEST WAY (law = 0), NEAREST WAY (1): how many have none (i = -1), how many have the TRACK that they WISH for (-2), "
            + "how many have it otherwise than now (-3), the TRACK of TRAIN i (0 or more; NONE).");
        String text = "yard 1,3;path 0,0;path 0,1;path 0,2;come 0,0,5,9,9;come 0,0,5,9,0;come 0,0,5,9,0;come 0,0,5,9,2;";
        c.laid(text, "way(0,-1)=1 way(0,-2)=2 way(0,-3)=3 way(0,0)=1 way(0,1)=0 way(0,2)=NONE way(0,3)=2");
        c.laid(text, "give(3,0)=1 way(1,-1)=1 way(1,-2)=0 way(1,-3)=2 way(1,0)=1 way(1,1)=2 way(1,2)=NONE way(1,3)=0 way(0,-3)=3");
        c.laid(FOUR + "come 0,0,5,9,3;".repeat(7), "way(0,6)=NONE way(0,0)=0 way(0,3)=3 way(0,-1)=3 way(0,-2)=1 way(0,-3)=4");
        c.of(14, "BAD.");
        c.laid(text, "way(0,-4)=BAD way(1,-4)=BAD way(0,4)=BAD way(1,4)=BAD way(-1,0)=BAD way(2,0)=BAD way(2,-1)=BAD way(-1,-1)=BAD way(2,4)=BAD way(0,"
            + FAR + ")=BAD way(0," + LOW + ")=BAD way(" + FAR + ",0)=BAD way(" + LOW + ",0)=BAD");
        c.laid(FOUR + "come 0,0,5,9,3;".repeat(7), "way(0,7)=BAD way(1,7)=BAD way(1,6)=NONE");
    }

    private void adopted() {
        c.of(15, "BEST WAY (law = 0), NEAREST WAY (1) is adopted: how many have it otherwise.");
        c.fresh("adopt(0)=4 train(0,6)=2 train(1,6)=0 train(2,6)=1 train(3,6)=0 count(4)=4 count(5)=2 count(6)=1 undo()=0 count(4)=0");
        c.fresh("adopt(1)=4 train(0,6)=0 train(1,6)=2 train(2,6)=1 train(3,6)=2 count(4)=4 count(6)=1");
        c.laid(ONE + "come 0,0,5,20,0;come 0,0,5,6,9;come 0,0,9,10,9;", "give(0,0)=1 adopt(1)=3 train(0,6)=NONE train(1,6)=0 train(2,6)=0 count(4)=2 undo()=1"
            + " train(0,6)=0 train(1,6)=NONE");
        c.laid(TWO + "come 0,0,5,9,0;", "give(0,1)=1 adopt(1)=0 train(0,6)=1 count(6)=2 adopt(0)=1 train(0,6)=0 adopt(0)=0 count(6)=4 undo()=3 train(0,6)=0");
        c.laid("yard 1,1;", "adopt(0)=0 adopt(1)=0 count(4)=0 count(6)=2");
        c.laid(FOUR + "come 0,0,1,1,3;come 0,0,2,2,3;come 0,0,3,3,3;come 0,0,4,4,3;come 0,0,5,5,3;come 0,0,6,6,3;come 0,0,7,7,3;",
            "adopt(0)=7 count(4)=7 count(5)=7 train(6,6)=3 adopt(1)=0");
        c.of(15, "BAD.");
        c.fresh("give(0,1)=1 adopt(2)=BAD adopt(-1)=BAD adopt(" + FAR + ")=BAD adopt(" + LOW + ")=BAD count(6)=1 train(0,6)=1 count(4)=1");
    }

    private void without() {
        c.of(0, "WITHOUT a SWITCH: how many TRAINS have none in the BEST WAY, if no ROUTE that takes it can be used.");
        c.laid("yard 2,2;path 0,0,1,2;path 0,1,3;path 1,0,11;come 0,0,10,20,9;come 0,1,15,25,9;come 1,0,40,41,9;",
            "way(0,-1)=0 without(0)=0 without(1)=2 without(2)=2 without(3)=1 without(4)=0 without(10)=0 without(11)=2");
        c.laid("yard 2,1;path 0,0,5;come 0,0,1,1,9;come 1,0,9,9,9;", "way(0,-1)=1 without(4)=1 without(5)=2 give(0,0)=1 without(5)=2 train(0,6)=0 route(0,0)=32");
        c.laid("yard 1,2;path 0,0,0;path 0,1,0,1;come 0,0,5,9,0;", "without(0)=1 without(1)=0 without(2)=0 way(0,0)=0");
        c.laid("yard 1,1;path 0,0,0,1,2,3;" + "come 0,0,5,9,9;".repeat(7), "without(0)=7 without(3)=7 without(4)=6 way(0,-1)=6");
        c.laid("yard 2,2;path 0,0,6;path 0,1,7;path 1,0,8;path 1,1,9;come 0,1,5,9,1;come 0,1,5,9,1;", "way(0,-1)=0 without(6)=1 without(9)=1 without(0)=0");
        c.of(16, "WITHOUT a SWITCH (0 to 11).");
        c.laid("yard 1,2;path 0,0,0;path 0,1,11;come 0,0,5,9,9;come 0,0,5,9,9;", "without(0)=1 without(1)=0 without(10)=0 without(11)=1");
        c.laid("yard 1,1;", "without(0)=0 without(11)=0");
        c.of(16, "BAD.");
        c.fresh("without(-1)=BAD without(12)=BAD without(31)=BAD without(32)=BAD without(-32)=BAD without(" + FAR + ")=BAD without(" + LOW + ")=BAD");
    }

    private void changes() {
        c.of(0, "A change: a TRACK given, taken, LATE, a WISH told anew, a WAY adopted.");
        c.fresh("give(0,1)=1 count(6)=1 undo()=0 train(0,6)=NONE");
        c.fresh("give(0,1)=1 take(0)=1 count(6)=2 undo()=1 train(0,6)=1 undo()=0 train(0,6)=NONE");
        c.fresh("late(0,5)=0 count(6)=1 train(0,2)=15 train(0,3)=25 undo()=0 train(0,2)=10 train(0,3)=20");
        c.fresh("give(0,1)=1 give(1,0)=2 give(2,2)=3 late(0,5)=1 count(6)=4 train(0,6)=NONE undo()=3 train(0,6)=1 train(0,2)=10 count(4)=3 why(0,1)=0");
        c.fresh("wish(0,2)=1 count(6)=1 undo()=0 train(0,4)=1 wish(1,2)=9 undo()=0 train(1,4)=NONE wish(0,9)=1 undo()=0 train(0,4)=1");
        c.fresh("give(0,1)=1 adopt(0)=4 count(6)=2 undo()=1 train(0,6)=1 train(1,6)=NONE count(4)=1 adopt(1)=3 undo()=1 count(4)=1");
        c.fresh("adopt(0)=4 adopt(0)=0 count(6)=2 undo()=1 count(4)=4 undo()=0 count(4)=0");
        c.fresh("'yard' wipe()=4 fault()=NONE why(0,0)=0 way(0,0)=2 way(1,0)=0 without(1)=3 count(6)=0 undo()=NO");
        c.fresh("late(1,3)=0 clash(1,0,2,0)=1 undo()=0 clash(0,0,1,0)=1 late(3,60)=0 clash(2,1,3,1)=0 undo()=0 clash(2,1,3,1)=1 way(0,-1)=0");
    }

    private void undone() {
        c.of(0, "UNDONE is the latest change (the last 6 can be; behind LAID none can be).");
        c.fresh("late(3,1)=0 late(3,2)=0 late(3,3)=0 late(3,4)=0 late(3,5)=0 late(3,6)=0 count(6)=6 train(3,2)=43"
            + " undo()=5 train(3,2)=37 undo()=4 train(3,2)=32 undo()=3 train(3,2)=28 undo()=2 train(3,2)=25 undo()=1 train(3,2)=23 undo()=0 train(3,2)=22 undo()=NO");
        c.fresh("late(3,1)=0 late(3,2)=0 late(3,3)=0 late(3,4)=0 late(3,5)=0 late(3,6)=0 late(3,7)=0 count(6)=6"
            + " undo()=5 undo()=4 undo()=3 undo()=2 undo()=1 undo()=0 train(3,2)=23 undo()=NO train(3,2)=23");
        c.fresh("late(3,1)=0 late(3,1)=0 late(3,1)=0 late(3,1)=0 late(3,1)=0 late(3,1)=0 late(3,1)=0 late(3,1)=0 late(3,1)=0 late(3,1)=0 late(3,1)=0"
            + " late(3,1)=0 late(3,1)=0 count(6)=6 undo()=5 undo()=4 wish(3,9)=0 count(6)=5 undo()=4 undo()=3 undo()=2 undo()=1 undo()=0 undo()=NO train(3,2)=29");
        c.told("yard 1,1;path 0,0;come 0,0,5,9,9;", "give(0,1)=1 late(0,1)=0 lay()=1 count(6)=0 undo()=NO give(0,0)=1 undo()=0 undo()=NO");
        c.told("yard 1,1;x", "give(0,1)=1 late(0,1)=0 lay()=NO count(6)=2 undo()=1 undo()=0 undo()=NO");
        c.fresh("give(0,1)=1 undo()=0 give(0,2)=1 undo()=0 train(0,6)=NONE undo()=NO");

        c.of(17, "UNDONE: how many more can be.");
        c.fresh("give(0,1)=1 undo()=0 give(0,1)=1 take(0)=1 undo()=1 undo()=0 count(6)=0");
        c.fresh("wish(0,0)=1 wish(0,1)=0 wish(0,2)=1 wish(0,9)=2 wish(0,0)=9 wish(0,1)=0 wish(0,2)=1 undo()=5 train(0,4)=1 undo()=4 train(0,4)=0 undo()=3"
            + " train(0,4)=NONE undo()=2 train(0,4)=2 undo()=1 train(0,4)=1 undo()=0 train(0,4)=0 undo()=NO");
        c.of(17, "NO.");
        c.fresh("undo()=NO give(9,9)=BAD take(0)=NO undo()=NO late(0,0)=BAD wish(0,1)=NO adopt(2)=BAD undo()=NO count(6)=0");
    }
}
