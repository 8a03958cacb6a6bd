/** The edges of the yard and of PLACES: routes, trains, what FITS, what CLASHES, give, take, why, clash, late, wish. */
final class EdgesOfPlaces {
    private static final String FAR = "2147483647";
    private static final String LOW = "-2147483648";
    private static final String SEVEN = "yard 3,4;path 0,0,0;path 0,3,11;path 2,3,5;" + "come 0,0,10,12,9;".repeat(5) + "come 2,0,30,40,3;come 0,2,50,60,9;";
    private final Cases c;

    EdgesOfPlaces(Cases cases) {
        c = cases;
    }

    void all() {
        having();
        fitting();
        clashingOnTracks();
        clashingOnSwitches();
        coupled();
        standing();
        refusals();
        routes();
        trains();
        hard();
        giving();
        taking();
        whys();
        clashes();
        lateness();
        lateByClash();
        wishes();
    }

    private void having() {
        c.of(0, "A TRAIN on a TRACK has that TRACK from P to Q, the ROUTE from its LINE IN in MINUTES P less 1 and P, "
            + "the ROUTE to its LINE OUT in MINUTES Q and Q and 1.");
        String yard = "yard 2,1;path 0,0,1;path 1,0,2;";
        c.laid(yard + "come 0,1,10,20,9;", "give(0,0)=1 on(0,9)=0 on(0,10)=1 on(0,11)=1 on(0,19)=1 on(0,20)=1 on(0,21)=0"
            + " taken(8)=0 taken(9)=2 taken(10)=2 taken(11)=0 taken(19)=0 taken(20)=4 taken(21)=4 taken(22)=0");
        c.laid(yard + "come 1,0,10,20,9;", "give(0,0)=1 taken(8)=0 taken(9)=4 taken(10)=4 taken(11)=0 taken(19)=0 taken(20)=2 taken(21)=2 taken(22)=0");
        c.laid(yard + "come 0,1,5,5,9;", "give(0,0)=1 on(0,4)=0 on(0,5)=1 on(0,6)=0 taken(3)=0 taken(4)=2 taken(5)=6 taken(6)=4 taken(7)=0");
        c.laid(yard + "come 0,1,1,98,9;", "give(0,0)=1 on(0,0)=0 on(0,1)=1 on(0,98)=1 on(0,99)=0 taken(0)=2 taken(1)=2 taken(2)=0"
            + " taken(97)=0 taken(98)=4 taken(99)=4");
        c.laid(yard + "come 0,1,10,20,9;", "on(0,10)=0 taken(10)=0 taken(20)=0 give(0,0)=1 on(0,10)=1 take(0)=0 on(0,10)=0 taken(20)=0");
    }

    private void fitting() {
        c.of(0, "A TRACK FITS a TRAIN, if both ROUTES are told.");
        c.laid("yard 2,4;path 0,0;path 1,1;path 0,3,4;path 1,3;come 0,1,5,9,9;come 1,0,5,9,9;come 0,0,5,9,9;come 1,1,5,9,9;",
            "train(0,7)=8 train(1,7)=8 train(2,7)=9 train(3,7)=10 give(0,0)=NO give(0,1)=NO give(0,2)=NO give(0,3)=1");
        c.laid("yard 1,4;come 0,0,5,9,9;", "train(0,7)=0 give(0,0)=NO give(0,3)=NO why(0,3)=1");
        c.laid("yard 1,4;path 0,0;path 0,1;path 0,2;path 0,3;come 0,0,5,9,9;", "train(0,7)=15 give(0,3)=1");
    }

    private void clashingOnTracks() {
        c.of(0, "Two TRAINS on TRACKS CLASH on the TRACK, if they are on one TRACK, and neither ARRIVES as many MINUTES behind the other's LEAVING "
            + "as GAP, or 1, whichever is more, or later;");
        for (int gap = 0; gap <= 9; gap++) {
            int apart = Math.max(gap, 1);
            for (int behind = 0; behind <= 11; behind++) {
                int p = 40 + behind;
                int due = behind >= apart ? 0 : 1;
                c.laid("yard 1,2;path 0,0;path 0,1;come 0,0,30,40,9;come 0,0," + p + ",60,9;span " + gap + ";",
                    "clash(0,0,1,0)=" + due + " clash(1,0,0,0)=" + due + " clash(0,1,1,1)=" + due + " clash(0,0,1,1)=0 clash(0,1,1,0)=0");
            }
        }
        String yard = "yard 1,1;path 0,0;come 0,0,30,40,9;";
        c.laid(yard + "come 0,0,30,40,9;", "clash(0,0,1,0)=1 give(0,0)=1 give(1,0)=NO why(1,0)=3");
        c.laid(yard + "come 0,0,33,33,9;", "clash(0,0,1,0)=1 clash(1,0,0,0)=1");
        c.laid(yard + "come 0,0,20,29,9;", "clash(0,0,1,0)=0 clash(1,0,0,0)=0 give(0,0)=1 give(1,0)=2");
        c.laid(yard + "come 0,0,20,30,9;", "clash(0,0,1,0)=1 clash(1,0,0,0)=1");
        c.laid(yard + "come 0,0,1,98,9;", "clash(0,0,1,0)=1 clash(1,0,0,0)=1");
        c.laid("yard 1,1;path 0,0;come 0,0,5,5,9;come 0,0,5,5,9;span 0;", "clash(0,0,1,0)=1 give(1,0)=1 give(0,0)=NO");
        c.laid("yard 1,1;path 0,0;come 0,0,5,5,9;come 0,0,6,6,9;span 0;", "clash(0,0,1,0)=0 give(1,0)=1 give(0,0)=2");
    }

    private void clashingOnSwitches() {
        c.of(0, "on a SWITCH, if in one MINUTE a ROUTE that the one has and one that the other has take one SWITCH.");
        String yard = "yard 2,2;path 0,0,1;path 1,0,2;path 0,1,1;path 1,1,3;";
        String unlike = "yard 2,2;path 0,0,1;path 1,0,2;path 0,1,3;path 1,1,4;";
        for (int apart = -3; apart <= 3; apart++) {
            String free = "clash(0,0,1,1)=0 clash(1,1,0,0)=0 clash(0,1,1,0)=0 clash(1,0,0,1)=0 give(0,0)=1 give(1,1)=2";
            c.laid(unlike + "come 0,1,30,60,9;come 0,1," + (30 + apart) + "," + (60 + apart) + ",9;", free);
            c.laid(unlike + "come 0,1,30,60,9;come 0,1," + (61 + apart) + ",80,9;", free);
            c.laid(unlike + "come 1,0,30,60,9;come 0,1,20," + (29 + apart) + ",9;", free);
            int due = Math.abs(apart) <= 1 ? 2 : 0;
            String pair = "clash(0,0,1,1)=" + due + " clash(1,1,0,0)=" + due + " give(0,0)=1 give(1,1)=" + (due == 0 ? "2" : "NO");
            c.laid(yard + "come 0,1,30,60,9;come 0,1," + (30 + apart) + ",80,9;", pair);
            c.laid(yard + "come 1,0,30,60,9;come 1,0,40," + (60 + apart) + ",9;", pair);
            c.laid(yard + "come 1,0,30,60,9;come 0,1," + (61 + apart) + ",80,9;", pair);
            c.laid(yard + "come 0,1,30,60,9;come 1,0,20," + (29 + apart) + ",9;", pair);
        }
        c.laid("yard 1,2;path 0,0,1,2,3,11;path 0,1,11,4,5,6;come 0,0,10,20,9;come 0,0,10,30,9;", "clash(0,0,1,1)=2 clash(0,0,1,0)=3");
        c.laid("yard 1,2;path 0,0,1,2,3,11;path 0,1,10,4,5,6;come 0,0,10,20,9;come 0,0,10,20,9;", "clash(0,0,1,1)=0 clash(0,0,1,0)=3 clash(0,1,1,1)=3");
        c.laid("yard 1,2;path 0,0,0;path 0,1,0;come 0,0,10,20,9;come 0,0,12,18,9;", "clash(0,0,1,1)=0 clash(0,0,1,0)=1");
        c.laid("yard 1,1;path 0,0,0;come 0,0,10,20,9;come 0,0,21,30,9;come 0,0,22,40,9;", "clash(0,0,1,0)=2 clash(0,0,2,0)=2");
        c.laid("yard 1,1;path 0,0,0;come 0,0,10,20,9;come 0,0,22,30,9;come 0,0,23,40,9;", "clash(0,0,1,0)=2 clash(0,0,2,0)=0");
        c.laid("yard 2,2;path 0,0,1;path 1,0,1;path 0,1,1;path 1,1,1;come 0,0,10,10,9;come 1,1,11,11,9;come 1,1,13,13,9;",
            "clash(0,0,1,1)=2 clash(0,0,2,1)=0");
    }

    private void coupled() {
        c.of(0, "But two that are COUPLED with one another and on one TRACK do not CLASH.");
        String yard = "yard 1,2;path 0,0,1;path 0,1,1;" + "come 0,0,10,20,9;".repeat(4);
        c.laid(yard + "pair 0,1;pair 3,2;", "clash(0,0,1,0)=0 clash(1,0,0,0)=0 clash(2,1,3,1)=0 clash(3,1,2,1)=0 clash(0,0,1,1)=2 clash(0,1,1,0)=2"
            + " clash(0,0,2,0)=3 clash(1,0,3,0)=3 clash(0,0,3,0)=3 clash(2,0,1,0)=3");
        c.laid(yard, "clash(0,0,1,0)=3 clash(2,1,3,1)=3");
        c.laid(yard + "pair 0,1;", "give(0,0)=1 give(1,1)=NO give(1,0)=2 give(2,0)=NO why(2,0)=3 why(1,1)=3");
    }

    private void standing() {
        c.of(0, "PLACES as they stand: each TRAIN has a TRACK that FITS it, or none; no two CLASH.");
        c.laid("yard 2,2;path 0,0;path 1,1;path 0,1;come 0,0,5,9,9;come 0,0,9,12,9;come 1,0,5,9,9;", "give(2,0)=NO give(0,0)=1 give(1,0)=NO"
            + " give(2,1)=2 give(1,1)=NO train(0,6)=0 train(1,6)=NONE train(2,6)=1 count(4)=2");
        c.laid("yard 2,2;path 0,0;path 1,1;come 0,1,5,9,9;come 1,0,5,9,9;", "adopt(0)=0 adopt(1)=0 count(4)=0 train(0,6)=NONE train(1,6)=NONE");

        c.of(0, "At first and when LAID none has one.");
        c.fresh("count(4)=0 train(0,6)=NONE train(1,6)=NONE train(2,6)=NONE train(3,6)=NONE");
        c.told("yard 1,2;path 0,0;path 0,1;come 0,0,5,9,0;come 0,0,5,9,1;", "give(0,1)=1 give(1,0)=2 lay()=2 count(4)=0 train(0,6)=NONE train(1,6)=NONE");
        c.laid(SEVEN, "adopt(0)=4 lay()=7 count(4)=0 train(0,6)=NONE train(6,6)=NONE");
    }

    private void refusals() {
        c.of(0, "BAD: a number is none that is told (LINES, TRACKS, TRAINS such as there are).");
        c.fresh("route(1,2)=8 route(2,2)=BAD route(1,3)=BAD train(3,0)=1 train(4,0)=BAD on(2,0)=0 on(3,0)=BAD use(0,2)=0 use(0,3)=BAD");
        c.laid("yard 1,1;path 0,0;come 0,0,5,9,9;", "route(0,0)=0 route(1,0)=BAD route(0,1)=BAD train(0,0)=0 train(1,0)=BAD on(0,0)=0 on(1,0)=BAD"
            + " give(1,0)=BAD give(0,1)=BAD take(1)=BAD why(1,0)=BAD why(0,1)=BAD late(1,1)=BAD wish(1,0)=BAD wish(0,1)=BAD use(0,1)=BAD way(0,1)=BAD");
        c.laid(SEVEN, "train(6,0)=0 train(7,0)=BAD route(2,3)=32 route(3,3)=BAD route(2,4)=BAD give(6,3)=1 give(7,3)=BAD take(7)=BAD");
        c.laid("yard 1,1;", "train(0,0)=BAD give(0,0)=BAD take(0)=BAD why(0,0)=BAD clash(0,0,1,0)=BAD late(0,1)=BAD wish(0,0)=BAD wish(0,9)=BAD way(0,0)=BAD");

        c.of(0, "NO: not as things stand. NONE: there is none. FULL.");
        c.fresh("undo()=NO take(0)=NO lay()=NO fault()=NONE train(1,4)=NONE train(0,5)=NONE train(0,6)=NONE wish(1,9)=NO");
        c.told("x".repeat(200), "write(65)=FULL lay()=NO");

        c.of(0, "Of several the first in this order, whatever the order at a call; nothing changes then.");
        c.told("x".repeat(200), "write(31)=BAD write(127)=BAD write(32)=FULL");
        c.laid("yard 1,2;path 0,0;come 0,0,1,98,9;", "give(0,0)=1 give(0,2)=BAD give(0,-1)=BAD give(1,0)=BAD late(0,0)=BAD late(0,61)=BAD late(0,-21)=BAD"
            + " late(1,1)=BAD late(0,1)=NO take(1)=BAD route(0,2)=BAD route(1,1)=BAD route(0,1)=NONE train(0,9)=BAD train(1,4)=BAD train(1,6)=BAD"
            + " why(1,1)=BAD why(0,2)=BAD clash(0,2,0,0)=BAD wish(0,2)=BAD wish(1,9)=BAD way(2,0)=BAD way(0,1)=BAD");
    }

    private void routes() {
        c.of(6, "SWITCHES that the ROUTE between a LINE and a TRACK takes, as bits.");
        c.laid("yard 3,4;path 0,0,0;path 2,3,11;path 1,2,0,11,5,6;path 0,3;path 2,0,10,1;",
            "route(0,0)=1 route(2,3)=2048 route(1,2)=2145 route(0,3)=0 route(2,0)=1026");
        c.of(6, "BAD; NONE: there is no such ROUTE.");
        c.laid("yard 3,4;path 0,0,0;path 2,3,11;", "route(0,1)=NONE route(0,3)=NONE route(1,0)=NONE route(2,2)=NONE route(2,0)=NONE route(3,0)=BAD"
            + " route(0,4)=BAD route(-1,0)=BAD route(0,-1)=BAD route(3,4)=BAD route(" + FAR + ",0)=BAD route(0," + FAR + ")=BAD route(" + LOW
            + ",0)=BAD route(0," + LOW + ")=BAD");
        c.laid("yard 1,1;path 0,0,3;", "route(0,0)=8 route(0,1)=BAD route(1,0)=BAD route(2,3)=BAD");
        c.laid("yard 3,4;path 2,3,11;", "wipe()=21 'yard 3,4;' lay()=0 route(2,3)=NONE route(0,0)=NONE");
    }

    private void trains() {
        c.of(7, "Of a TRAIN: LINE IN (what = 0), LINE OUT (1), ARRIVES (2), LEAVES (3), WISHES for (4; NONE), COUPLED with (5; NONE), its TRACK (6; NONE), "
            + "TRACKS that FIT it, as bits (7), HARD (8).");
        String text = "yard 3,4;path 0,1;path 1,1;path 2,1;path 2,3;come 2,1,3,98,3;come 0,2,1,1,9;come 2,2,7,7,0;pair 2,0;";
        c.laid(text, "train(0,0)=2 train(0,1)=1 train(0,2)=3 train(0,3)=98 train(0,4)=3 train(0,5)=2 train(0,6)=NONE train(0,7)=2 train(0,8)=1"
            + " train(1,0)=0 train(1,1)=2 train(1,2)=1 train(1,3)=1 train(1,4)=NONE train(1,5)=NONE train(1,6)=NONE train(1,7)=2 train(1,8)=1"
            + " train(2,0)=2 train(2,1)=2 train(2,2)=7 train(2,3)=7 train(2,4)=0 train(2,5)=0 train(2,6)=NONE train(2,7)=10 train(2,8)=2");
        c.laid(text, "give(2,3)=1 train(2,6)=3 late(2,5)=0 train(2,2)=12 train(2,3)=12 wish(2,9)=0 train(2,4)=NONE wish(2,3)=9 train(2,4)=3"
            + " take(2)=3 train(2,6)=NONE");
        c.of(7, "BAD.");
        c.laid(text, "train(2,8)=2 train(2,9)=BAD train(2,-1)=BAD train(3,0)=BAD train(-1,0)=BAD train(3,9)=BAD train(" + FAR + ",0)=BAD train("
            + LOW + ",0)=BAD train(0," + FAR + ")=BAD train(0," + LOW + ")=BAD train(6,6)=BAD train(7,6)=BAD");
    }

    private void hard() {
        c.of(0, "HARD is how many TRACKS a TRAIN could have now, were it without one, PLACES of all others staying.");
        String yard = "yard 1,4;path 0,0,0;path 0,1,1;path 0,2,2;path 0,3,3,0;" + "come 0,0,10,20,9;".repeat(5);
        c.laid(yard, "train(4,8)=4 give(0,0)=1 train(4,8)=2 give(1,1)=2 train(4,8)=1 give(2,2)=3 train(4,8)=0 train(0,8)=2 train(1,8)=1"
            + " train(2,8)=1 take(0)=0 train(4,8)=2 train(2,8)=3");
        c.laid("yard 1,1;come 0,0,5,9,9;", "train(0,8)=0");
        c.laid("yard 2,2;path 0,0;path 0,1;path 1,1;come 0,1,5,9,9;come 0,0,5,9,9;", "train(0,8)=1 train(1,8)=2 give(1,1)=1 train(0,8)=0 train(1,8)=2");
        c.laid("yard 1,2;path 0,0,1;path 0,1,1;come 0,0,5,9,9;come 0,0,5,9,9;pair 0,1;", "train(1,8)=2 give(0,1)=1 train(1,8)=1 train(0,8)=2");
    }

    private void giving() {
        c.of(8, "A TRAIN is given a TRACK: how many have one.");
        c.laid(SEVEN, "give(0,0)=1 give(5,3)=2 give(6,3)=3 count(4)=3 train(0,6)=0 train(5,6)=3 train(6,6)=3 train(1,6)=NONE count(6)=3");
        c.laid("yard 1,1;path 0,0;come 0,0,1,1,9;come 0,0,2,2,9;come 0,0,3,3,9;come 0,0,4,4,9;come 0,0,5,5,9;come 0,0,6,6,9;come 0,0,7,7,9;",
            "give(3,0)=1 give(0,0)=2 give(6,0)=3 give(1,0)=4 give(5,0)=5 give(2,0)=6 give(4,0)=7 give(4,0)=NO count(4)=7");
        c.of(8, "BAD; NO: it has one, it does not FIT, or it would CLASH.");
        c.laid(SEVEN, "give(0,0)=1 give(0,0)=NO give(0,3)=NO give(1,1)=NO give(5,0)=NO give(6,0)=NO give(1,0)=NO train(0,6)=0 train(1,6)=NONE count(6)=1");
        c.laid(SEVEN, "give(0,0)=1 give(7,0)=BAD give(-1,0)=BAD give(0,4)=BAD give(0,-1)=BAD give(1,4)=BAD give(1,-1)=BAD give(1,9)=BAD give(1,-4)=BAD give("
            + FAR + ",0)=BAD give(" + LOW + ",0)=BAD give(1," + FAR + ")=BAD give(1," + LOW + ")=BAD give(7,4)=BAD");
        c.laid("yard 2,1;path 0,0;come 0,1,5,9,9;come 1,0,5,9,9;come 1,1,5,9,9;", "give(0,0)=NO give(1,0)=NO give(2,0)=NO count(6)=0");
        c.laid("yard 1,2;path 0,0,1;path 0,1,1;come 0,0,5,9,9;come 0,0,6,20,9;", "give(0,0)=1 give(1,1)=NO take(0)=0 give(1,1)=1");
    }

    private void taking() {
        c.of(9, "A TRAIN has none any more: which it had.");
        c.laid(SEVEN, "give(0,0)=1 give(6,3)=2 take(0)=0 train(0,6)=NONE train(6,6)=3 count(4)=1 take(6)=3 count(4)=0 count(6)=4 give(0,3)=1 take(0)=3");
        c.of(9, "BAD; NO: it has none.");
        c.laid(SEVEN, "take(0)=NO give(0,0)=1 take(1)=NO take(6)=NO take(7)=BAD take(-1)=BAD take(" + FAR + ")=BAD take(" + LOW + ")=BAD take(0)=0 take(0)=NO");
    }

    private void whys() {
        c.of(10, "Why a TRAIN can not have a TRACK, PLACES of all others staying: 0 it can (or has it), 1 there is no ROUTE IN, 2 none OUT, "
            + "3 and the TRAIN, the lowest, with which it would CLASH.");
        c.laid("yard 2,4;path 0,0;path 1,1;path 0,2;path 1,2;come 0,1,5,9,9;come 1,0,5,9,9;come 0,0,5,9,9;", "why(0,0)=2 why(0,1)=1 why(0,2)=0 why(0,3)=1"
            + " why(1,0)=1 why(1,1)=2 why(2,0)=0 why(2,1)=1 give(0,2)=1 why(0,2)=0 why(1,2)=3 why(2,2)=3 why(1,0)=1 why(1,1)=2 why(2,0)=0");
        String seven = "yard 1,4;path 0,0,0;path 0,1,1;path 0,2,2;path 0,3,0,1,2;" + "come 0,0,10,20,9;".repeat(7);
        c.laid(seven, "give(6,2)=1 why(0,2)=9 why(0,3)=9 why(5,3)=9 give(5,1)=2 why(0,3)=8 why(0,1)=8 why(6,3)=8 why(6,1)=8 why(5,3)=9 give(0,0)=3 why(1,3)=3"
            + " why(1,1)=8 why(1,2)=9 why(5,3)=3 why(0,3)=8 why(0,0)=0 why(6,2)=0 take(5)=1 why(5,1)=0 why(5,3)=3 why(0,3)=9 why(0,1)=0");
        c.of(10, "BAD.");
        c.laid(seven, "why(6,3)=0 why(7,3)=BAD why(6,4)=BAD why(-1,3)=BAD why(6,-1)=BAD why(" + FAR + ",0)=BAD why(" + LOW + ",0)=BAD why(0," + FAR
            + ")=BAD why(0," + LOW + ")=BAD why(7,4)=BAD why(0,9)=BAD why(0,-4)=BAD");
    }

    private void clashes() {
        c.of(11, "Whether two TRAINS would CLASH, the one on a TRACK, the other one on another one or on it: 0 they would not (or a TRACK does not FIT), "
            + "1 on the TRACK, 2 on a SWITCH, 3 both.");
        String text = "yard 2,3;path 0,0,1;path 0,1,1;path 1,0,2;path 1,1;path 1,2;come 0,0,10,20,9;come 0,0,10,20,9;come 1,1,12,18,9;come 0,1,21,30,9;";
        c.laid(text, "clash(0,0,1,0)=3 clash(0,0,1,1)=2 clash(0,0,2,0)=1 clash(0,0,2,1)=0 clash(0,0,2,2)=0 clash(0,0,3,0)=2 clash(0,0,3,1)=2"
            + " clash(0,2,1,2)=0 clash(0,2,2,2)=0 clash(2,2,0,2)=0 clash(0,0,1,2)=0 clash(1,2,0,0)=0 clash(3,2,2,2)=0");
        c.laid(text, "give(0,0)=1 clash(0,1,1,1)=3 clash(0,1,1,0)=2 clash(1,0,2,0)=1 clash(1,1,2,2)=0");
        c.of(11, "BAD (one TRAIN twice, too).");
        c.laid(text, "clash(0,0,0,0)=BAD clash(0,0,0,1)=BAD clash(3,0,3,1)=BAD clash(4,0,0,0)=BAD clash(0,0,4,0)=BAD clash(-1,0,0,0)=BAD clash(0,0,-1,0)=BAD"
            + " clash(0,3,1,0)=BAD clash(0,0,1,3)=BAD clash(0,-1,1,0)=BAD clash(0,0,1,-1)=BAD clash(3,1,2,2)=0 clash(4,0,4,0)=BAD clash(0,2,0,2)=BAD");
        c.laid(text, "clash(" + FAR + ",0,1,0)=BAD clash(" + LOW + ",0,1,0)=BAD clash(0," + FAR + ",1,0)=BAD clash(0," + LOW + ",1,0)=BAD clash(0,0," + FAR
            + ",0)=BAD clash(0,0," + LOW + ",0)=BAD clash(0,0,1," + FAR + ")=BAD clash(0,0,1," + LOW + ")=BAD clash(0,0,1,-4)=BAD");
    }

    private void lateness() {
        c.of(0, "LATE by d (-20 to 60): a TRAIN ARRIVES and LEAVES d MINUTES later;");
        c.laid("yard 1,1;path 0,0;come 0,0,21,38,9;", "late(0,-21)=BAD late(0,61)=BAD late(0,60)=0 train(0,2)=81 train(0,3)=98 undo()=0 late(0,-20)=0"
            + " train(0,2)=1 train(0,3)=18 late(0,1)=0 train(0,2)=2 train(0,3)=19 late(0,-1)=0 train(0,2)=1 train(0,3)=18 late(0,-1)=NO");
        c.laid("yard 1,1;path 0,0;come 0,0,22,37,9;come 0,0,60,61,9;", "late(0,-20)=0 train(0,2)=2 late(0,60)=0 train(0,3)=77 train(1,2)=60 train(1,3)=61");

        c.of(12, "LATE by d: 1 if it has no TRACK by it, 0.");
        c.laid("yard 1,2;path 0,0;path 0,1;come 0,0,10,20,9;come 0,0,30,40,9;", "late(0,1)=0 late(0,-1)=0 give(0,0)=1 give(1,0)=2 late(0,9)=0 train(0,6)=0"
            + " late(0,1)=1 train(0,6)=NONE train(1,6)=0 late(0,1)=0 give(0,1)=2 late(0,5)=0 train(0,6)=1 count(6)=6");

        c.of(12, "BAD (d 0, too); NO: MINUTES would be below 1 or above 98.");
        c.laid("yard 1,1;path 0,0;come 0,0,5,90,9;", "late(0,0)=BAD late(0,-5)=NO late(0,9)=NO late(0,-4)=0 train(0,2)=1 undo()=0 late(0,8)=0 train(0,3)=98"
            + " late(0,1)=NO late(0,60)=NO late(0,-20)=NO late(0,61)=BAD late(0,-21)=BAD late(0," + FAR + ")=BAD late(0," + LOW + ")=BAD train(0,2)=13");
        c.laid("yard 1,1;path 0,0;come 0,0,1,98,9;", "late(0,1)=NO late(0,-1)=NO late(0,0)=BAD late(1,1)=BAD late(-1,1)=BAD late(" + FAR + ",1)=BAD late("
            + LOW + ",1)=BAD late(1,99)=BAD give(0,0)=1 late(0,1)=NO train(0,6)=0 count(6)=1");
        c.laid(SEVEN, "late(6,1)=0 late(7,1)=BAD train(6,2)=51 count(6)=1");
    }

    private void lateByClash() {
        c.of(0, "if it has a TRACK and now CLASHES with another one on its, it has none then.");
        c.laid("yard 1,1;path 0,0;come 0,0,10,20,9;come 0,0,30,40,9;span 5;", "give(0,0)=1 give(1,0)=2 late(0,5)=0 train(0,6)=0 late(0,1)=1 train(0,6)=NONE"
            + " train(1,6)=0 count(4)=1 train(0,2)=16 train(0,3)=26");
        c.laid("yard 1,1;path 0,0;come 0,0,30,40,9;come 0,0,10,20,9;span 5;", "give(0,0)=1 give(1,0)=2 late(0,-5)=0 train(0,6)=0 late(0,-1)=1 train(0,6)=NONE");
        c.laid("yard 1,2;path 0,0,1;path 0,1,1;come 0,0,10,20,9;come 0,0,40,50,9;", "give(0,0)=1 give(1,1)=2 late(0,17)=0 train(0,6)=0 late(0,1)=1"
            + " train(0,6)=NONE train(1,6)=1");
        c.laid("yard 1,2;path 0,0,1;path 0,1,2;come 0,0,10,20,9;come 0,0,40,50,9;", "give(0,0)=1 give(1,1)=2 late(0,30)=0 train(0,6)=0 count(4)=2");
        c.laid("yard 1,1;path 0,0,1;come 0,0,10,20,9;come 0,0,40,50,9;pair 0,1;", "give(0,0)=1 give(1,0)=2 late(0,30)=0 train(0,6)=0 train(1,6)=0");
        c.laid("yard 1,1;path 0,0,1;come 0,0,10,20,9;come 0,0,40,50,9;", "give(0,0)=1 late(0,30)=0 train(0,6)=0 give(1,0)=NO why(1,0)=3");
        c.laid("yard 1,1;path 0,0,1;come 0,0,10,20,9;come 0,0,40,50,9;", "give(1,0)=1 late(0,30)=0 train(0,6)=NONE train(1,6)=0 late(0,-20)=0");
    }

    private void wishes() {
        c.of(13, "A TRAIN WISHES for a TRACK (9: for none): for which it did (9: for none).");
        c.laid(SEVEN, "wish(0,0)=9 train(0,4)=0 wish(0,3)=0 train(0,4)=3 wish(0,9)=3 train(0,4)=NONE wish(6,1)=9 train(6,4)=1 wish(5,9)=3 train(5,4)=NONE"
            + " train(1,4)=NONE count(6)=5");
        c.laid("yard 1,2;path 0,0;come 0,0,5,9,0;", "give(0,0)=1 count(5)=1 wish(0,1)=0 count(5)=0 train(0,6)=0 wish(0,0)=1 count(5)=1");
        c.of(13, "BAD; NO: it does.");
        c.laid(SEVEN, "wish(0,9)=NO wish(5,3)=NO wish(0,4)=BAD wish(0,8)=BAD wish(0,10)=BAD wish(0,-1)=BAD wish(0,-4)=BAD wish(7,0)=BAD wish(7,9)=BAD wish(-1,9)=BAD"
            + " wish(0," + FAR + ")=BAD wish(0," + LOW + ")=BAD wish(" + FAR + ",9)=BAD wish(" + LOW + ",9)=BAD count(6)=0 wish(0,3)=9 wish(0,3)=NO count(6)=1");
        c.laid("yard 1,1;path 0,0;come 0,0,5,9,9;", "wish(0,1)=BAD wish(0,0)=9 wish(0,0)=NO wish(0,9)=0 wish(0,9)=NO");
    }
}
