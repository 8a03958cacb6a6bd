/** The edges of THE TEXT: its letters, its ITEMS, its FAULT, how it is LAID, and what there is at first. */
final class EdgesOfText {
    private static final String YARD = "yard 2,2;";
    private static final String COME = "come 0,0,1,1,9;";
    private final Cases c;

    EdgesOfText(Cases cases) {
        c = cases;
    }

    void all() {
        howMany();
        calls();
        items();
        yards();
        paths();
        comes();
        pairs();
        spans();
        faults();
        atFirst();
        writing();
        wiping();
        laying();
    }

    private void howMany() {
        c.of(0, "There are LINES (1 to 3), TRACKS (1 to 4), SWITCHES 0 to 11, TRAINS (7 at most), each 0, 1, ..");
        c.faulty("", "yard 0,1;", "yard 4,1;", "yard 1,0;", "yard 1,5;", "yard 0,0;", "yard 10,1;", "yard 1,10;", "yard 99,99;");
        c.fine("", "yard 1,1;", "yard 3,1;", "yard 1,4;", "yard 3,4;", "yard 2,2;");
        c.fine("yard 1,1;", "path 0,0,0;", "path 0,0,11;");
        c.faulty("yard 1,1;", "path 0,0,12;", "path 0,0,99;");
        c.fine("yard 1,1;", "", COME.repeat(7));
        c.faulty("yard 1,1;" + COME.repeat(7), COME);
        c.laid("yard 1,1;", "count(0)=1 count(1)=1 count(2)=0 train(0,0)=BAD route(0,0)=NONE route(1,0)=BAD route(0,1)=BAD");
        c.laid("yard 3,4;" + COME.repeat(7), "count(0)=3 count(1)=4 count(2)=7 train(0,0)=0 train(6,0)=0 train(7,0)=BAD train(-1,0)=BAD"
            + " route(0,0)=NONE route(2,3)=NONE route(3,3)=BAD route(2,4)=BAD route(-1,0)=BAD route(0,-1)=BAD");
    }

    private void calls() {
        c.of(0, "An object is used for at most 512 calls after it has been made; what later calls answer is free.");
        ThroatTracks x = new ThroatTracks();
        boolean right = true;
        for (int k = 0; k < 511; k++) right &= (k & 1) == 0 ? x.give(0, 2) == 1 : x.take(0) == 2;
        c.check(right && x.undo() == 5, "512 calls are answered as they are due");
        int sum = 0;
        for (int k = 0; k < 3000; k++) sum += x.late(0, 1) + x.give(0, 0) + x.adopt(k & 1) + x.write(';') + x.lay() + x.undo();
        c.check(sum != Integer.MIN_VALUE, "later calls end");
    }

    private void items() {
        c.of(0, "THE TEXT is letters (200 at most).");
        String full = "yard 1,1;path 0,0;" + "span 1;".repeat(26);
        c.told(full, "count(7)=200 fault()=NONE write(59)=FULL count(7)=200 fault()=NONE lay()=0");
        c.told("yard 1,1;path 0,0,1;" + "span 1;".repeat(25) + "span", "count(7)=199 fault()=195 write(32)=200 write(49)=FULL fault()=195");

        c.of(0, "A TEXT is ITEMS one behind the other, each a word, a blank, numbers of one or two figures parted by , , a ; behind it:");
        c.fine("", "", "yard 1,1;", "yard 01,01;", "yard 1,01;", "yard 1,1;span 1;", full);
        c.faulty("", " ", ";", "1", "y", "yard", "yard ", "yard;", "yard ;", "yard 1", "yard 1,", "yard 1,1", "yard 1,1,", "yard 1,1:");
        c.faulty("", " yard 1,1;", "yard1,1;", "yard  1,1;", "yard ,1;", "yard 1,;", "yard 1,,1;", "yard 1.1;", "yard 1;1;", "yard 1 1;");
        c.faulty("", "yard 1, 1;", "yard 1 ,1;", "yard 1,1 ;", "yard -1,1;", "yard +1,1;", "yard a,1;", "yard 1,a;", "yard 1,1a;");
        c.faulty("", "yard 001,1;", "yard 1,001;", "yard 100,1;", "yard 1/,1;", "yard 1:,1;", "yard /,1;", "yard :,1;");
        c.faulty("", "Yard 1,1;", "YARD 1,1;", "yar 1,1;", "yards 1,1;", "line 1,1;", "zard 1,1;", "yare 1,1;", "yard,1,1;", "yard!1,1;");
        c.faulty("yard 1,1;", " ", ";", "x", " span 1;", "span", "span 1", "span1;", "span 001;", "path 0,0", "pat 0,0;", "spanpath 0,0;");
        c.faulty("yard 1,1;", "pair", "come", "come 0,0,1,1,9", "come 0,0,001,1,9;", "come 0,0,1,1,;", "come 0,0,1,1,9,;", "path 0,0,;");
        c.faulty("yard 1,1;span 1;", " ", "s", "pan 1;");
        // These signs would be numbers within the bounds, were they taken for figures.
        c.faulty("yard 1,1;", "path 0,0,:;", "path 0,0,;;", "path 0,0,1:;", "come 0,0,a,98,9;", "come 0,0,1,:,9;", "come 0,0,1,a,9;", "come 0,0,1,1:,9;");
    }

    private void yards() {
        c.of(0, "yard L,T        there are L LINES, T TRACKS; once, first of all ITEMS");
        c.laid("yard 3,2;", "count(0)=3 count(1)=2");
        c.laid("yard 2,3;", "count(0)=2 count(1)=3");
        c.faulty("", "yard 1;", "yard 1,1,1;", "yard 1,1,1,1,1,1;", "yard 1,1,1,1,1,1,1;");
        c.told("yard 1,1;", "fault()=NONE wipe()=9 'yard 1;' fault()=0 lay()=NO");
        c.faulty("yard 1,1;", "yard 1,1;", "yard 2,2;");
        c.faulty("yard 1,1;span 1;", "yard 1,1;");
        c.faulty("", "span 1;", "span 1;yard 1,1;", "path 0,0;", "path 0,0;yard 1,1;", COME, COME + YARD, "pair 0,1;", "pair 0,1;yard 1,1;");
    }

    private void paths() {
        c.of(0, "path A,T,S,S,.. the ROUTE between LINE A and TRACK T takes SWITCHES S (none to four; once for each A and T)");
        c.fine("yard 2,3;", "path 0,0;", "path 1,2;", "path 0,0,5;", "path 0,0,5,6,7,8;", "path 01,02,03,04;", "path 0,0,0,10,9,11;");
        c.faulty("yard 2,3;", "path 0;", "path ;", "path 2,0;", "path 0,3;", "path 2,2;", "path 0,0,1,2,3,4,5;", "path 0,0,1,2,3,4,5,6;");
        c.faulty("yard 2,3;", "path 0,0,1,2,3,12;", "path 0,0,12,1,2,3;", "path 10,0;", "path 0,10;");
        c.faulty("yard 2,3;path 0,1;", "path 0,1;", "path 0,1,5;", "path 00,01;", "path 1;");
        c.faulty("yard 2,3;path 0,1,5;", "path 0,1,5;", "path 0,1,6;", "path 0,1;");
        c.faulty("yard 2,3;path 0,0;span 1;", "path 0,0;");
        c.fine("yard 2,3;path 0,1;", "path 1,0;", "path 0,0;", "path 1,1;", "path 0,2;");
        String all = "yard 3,4;path 0,0;path 0,1;path 0,2;path 0,3;path 1,0;path 1,1;path 1,2;path 1,3;path 2,0;path 2,1;path 2,2;path 2,3;";
        c.fine(all, "");
        c.faulty(all, "path 0,0;", "path 2,3;", "path 0,3;", "path 1,0;", "path 2,4;", "path 3,0;");
        c.laid("yard 2,3;path 1,2,4,3,2,1;path 0,1;", "route(1,2)=30 route(0,1)=0 route(1,0)=NONE route(0,0)=NONE route(1,1)=NONE");

        c.of(0, "A ROUTE is between a LINE and a TRACK; it takes a set of SWITCHES (may be empty).");
        c.laid("yard 1,3;path 0,0;path 0,1,7,7;path 0,2,3,3,3,3;", "route(0,0)=0 route(0,1)=128 route(0,2)=8");
        c.laid("yard 1,2;path 0,0;path 0,1;come 0,0,5,9,9;come 0,0,5,9,9;",
            "train(0,7)=3 clash(0,0,1,1)=0 give(0,0)=1 give(1,1)=2 taken(4)=0 taken(5)=0 taken(9)=0 taken(10)=0");
    }

    private void comes() {
        c.of(0, "come A,B,P,Q,W  the next TRAIN: IN from LINE A, OUT to LINE B, ARRIVES in P, LEAVES in Q, WISHES for TRACK W (9: for none)");
        c.laid("yard 3,4;come 2,1,3,4,0;come 1,2,8,9,3;come 0,0,7,7,9;", "count(2)=3 train(0,0)=2 train(0,1)=1 train(0,2)=3 train(0,3)=4 train(0,4)=0"
            + " train(1,0)=1 train(1,1)=2 train(1,2)=8 train(1,3)=9 train(1,4)=3 train(2,0)=0 train(2,1)=0 train(2,2)=7 train(2,3)=7 train(2,4)=NONE");
        c.faulty(YARD + COME, "come 0;", "come 0,0,1;", "come 0,0,1,1;");
        c.faulty(YARD, "come 0;", "come 0,0,1,1;", "come 0,0,1,1,9,9;", "come 0,0,1,1,9,9,9;", "come ;");
        c.fine("yard 1,1;", "come 0,0,1,1,0;", "come 00,00,01,01,09;");
        c.faulty("yard 1,1;", "come 1,0,1,1,9;", "come 0,1,1,1,9;", "come 0,0,1,1,1;");
        c.fine("yard 3,4;", "come 2,0,1,1,3;", "come 0,2,1,1,3;");
        c.faulty("yard 3,4;", "come 3,0,1,1,9;", "come 0,3,1,1,9;", "come 0,0,1,1,4;", "come 0,0,1,1,8;", "come 0,0,1,1,10;", "come 0,0,1,1,99;");

        c.of(0, "A TRAIN comes IN from a LINE, goes OUT to a LINE, ARRIVES in MINUTE P, LEAVES in MINUTE Q (1 to 98, Q no less than P), "
            + "may WISH for a TRACK, may be COUPLED with one other TRAIN.");
        c.fine(YARD, "come 0,0,1,1,9;", "come 0,1,1,2,9;", "come 1,0,98,98,9;", "come 1,1,97,98,0;", "come 0,0,1,98,1;", "come 0,0,50,50,9;");
        c.faulty(YARD, "come 0,0,0,0,9;", "come 0,0,0,1,9;", "come 0,0,98,99,9;", "come 0,0,99,99,9;", "come 0,0,1,99,9;", "come 0,0,0,98,9;");
        c.faulty(YARD, "come 0,0,2,1,9;", "come 0,0,98,97,9;", "come 0,0,51,50,9;", "come 0,0,98,1,9;", "come 0,0,99,98,9;");
        c.laid(YARD + "come 0,1,5,5,9;come 1,0,5,6,0;come 0,0,7,8,1;pair 0,1;",
            "train(0,4)=NONE train(1,4)=0 train(2,4)=1 train(0,5)=1 train(1,5)=0 train(2,5)=NONE");
    }

    private void pairs() {
        c.of(0, "pair I,J        TRAINS I and J (told ahead, unlike, neither COUPLED yet) are COUPLED");
        String two = YARD + COME + COME;
        String four = two + COME + COME;
        c.fine(two, "pair 0,1;", "pair 1,0;", "pair 00,01;", "span 1;pair 0,1;span 2;");
        c.faulty(two, "pair 0;", "pair ;", "pair 0,1,2;", "pair 0,0;", "pair 1,1;", "pair 0,2;", "pair 2,0;", "pair 2,3;", "pair 0,10;");
        c.faulty(YARD + COME + "come 0,1,1,1,9;", "pair 0;", "pair 00;");
        c.faulty(YARD, "pair 0,1;", "pair 0,0;", "pair 0,1;" + COME + COME);
        c.faulty(YARD + COME, "pair 0,1;", "pair 1,0;", "pair 0,1;" + COME);
        c.faulty(four + "pair 0,1;", "pair 0,1;", "pair 1,0;", "pair 0,2;", "pair 2,0;", "pair 1,2;", "pair 2,1;");
        c.fine(four + "pair 0,1;", "pair 2,3;", "pair 3,2;");
        c.fine(YARD + COME.repeat(7), "pair 6,0;pair 1,5;pair 4,2;");
        c.faulty(YARD + COME.repeat(7) + "pair 6,0;pair 1,5;pair 4,2;", "pair 3,6;", "pair 0,3;", "pair 3,3;", "pair 3,7;");
        c.laid(YARD + COME.repeat(7) + "pair 6,0;", "train(0,5)=6 train(6,5)=0 train(1,5)=NONE train(5,5)=NONE");
    }

    private void spans() {
        c.of(0, "span G          GAP is G (0 to 9; 1 without; of several the last one counts)");
        c.fine("yard 1,1;", "span 0;", "span 9;", "span 00;", "span 09;", "span 5;span 5;");
        c.faulty("yard 1,1;", "span 10;", "span 99;", "span ;", "span 1,1;", "span 1,1,1,1,1,1;", "span 1,1,1,1,1,1,1;");
        c.laid("yard 1,1;", "count(3)=1");
        c.laid("yard 1,1;span 0;", "count(3)=0");
        c.laid("yard 1,1;span 9;", "count(3)=9");
        c.laid("yard 1,1;span 5;span 2;", "count(3)=2");
        c.laid("yard 1,1;span 2;span 9;span 0;", "count(3)=0");
        c.laid("yard 1,1;span 7;", "count(3)=7 wipe()=16 'yard 1,1;' lay()=0 count(3)=1");
    }

    private void faults() {
        c.of(0, "FAULT: the place of the first letter of the first ITEM that is not so (or is one too many).");
        c.told("", "fault()=NONE 'y' fault()=0 'ard 1,1' fault()=0 ';' fault()=NONE 's' fault()=9 'pan 2;' fault()=NONE ';' fault()=16");
        c.faulty("", "yard 1,1x;", "bad;bad;", "yard 5,5;path 9,9;");
        c.faulty("yard 1,1;", "yard 1,1;path 9,9;", "path 0,0,1,2,3,12;span 10;", "span 10;yard 1,1;");
        c.faulty("yard 1,1;path 0,0;", "path 0,0;path 0,0;", "path 0,1;bad");
        c.faulty("yard 1,1;" + COME.repeat(7), COME, COME + COME);
        c.faulty("yard 1,1;" + "span 1;".repeat(27), "s", "sp");

        c.of(4, "FAULT of THE TEXT. NONE.");
        c.fresh("fault()=NONE 'yard 1,1;' fault()=NONE ' ' fault()=9 wipe()=10 fault()=NONE 'x' fault()=0");
        c.laid("yard 1,1;", "'x' fault()=9 lay()=NO wipe()=10 fault()=NONE");
    }

    private static final String FIRST = "yard 2,3;path 0,0,1;path 0,1,1,2;path 0,2,1,2,3;path 1,0,4,5;path 1,1,4;path 1,2,3;"
        + "come 0,1,10,20,1;come 1,0,12,18,9;come 0,0,15,25,1;come 1,1,22,30,0;span 1;";
    private static final String FIRST_YARD = "count(0)=2 count(1)=3 count(2)=4 count(3)=1 count(4)=0 count(5)=0 count(6)=0"
        + " route(0,0)=2 route(0,1)=6 route(0,2)=14 route(1,0)=48 route(1,1)=16 route(1,2)=8 route(2,0)=BAD route(0,3)=BAD ";
    private static final String FIRST_TRAINS =
        "train(0,0)=0 train(0,1)=1 train(0,2)=10 train(0,3)=20 train(0,4)=1 train(0,5)=NONE train(0,6)=NONE train(0,7)=7 train(0,8)=3"
        + " train(1,0)=1 train(1,1)=0 train(1,2)=12 train(1,3)=18 train(1,4)=NONE train(1,5)=NONE train(1,6)=NONE train(1,7)=7 train(1,8)=3"
        + " train(2,0)=0 train(2,1)=0 train(2,2)=15 train(2,3)=25 train(2,4)=1 train(2,5)=NONE train(2,6)=NONE train(2,7)=7 train(2,8)=3"
        + " train(3,0)=1 train(3,1)=1 train(3,2)=22 train(3,3)=30 train(3,4)=0 train(3,5)=NONE train(3,6)=NONE train(3,7)=7 train(3,8)=3"
        + " train(4,0)=BAD";

    private void atFirst() {
        c.of(0, "LAID is a TEXT without FAULT that tells of a yard (NO else; at first " + FIRST + ").");
        c.fresh(FIRST_YARD + FIRST_TRAINS);
        c.told("yard 1,1;", "lay()=0 count(0)=1");
        c.told("yard 1,1;x", "lay()=NO count(0)=2");
        c.told("yard 1,1", "lay()=NO count(0)=2");
        c.told("", "lay()=NO count(0)=2");
        c.laid(FIRST, FIRST_YARD + FIRST_TRAINS);

        c.of(1, "As told; THE TEXT is empty.");
        c.fresh("count(7)=0 fault()=NONE lay()=NO wipe()=0 undo()=NO taken(10)=0 on(1,10)=0");
        c.fresh(FIRST_YARD + "count(7)=0");
    }

    private void writing() {
        c.of(2, "A letter (32 to 126, as in ASCII) comes behind THE TEXT: how long it is.");
        c.fresh("write(31)=BAD write(32)=1 write(126)=2 write(127)=BAD count(7)=2 write(33)=3 write(125)=4 count(7)=4");
        c.fresh("write(0)=BAD write(-1)=BAD write(10)=BAD write(128)=BAD write(255)=BAD write(256)=BAD write(304)=BAD write(65568)=BAD count(7)=0");
        c.fresh("write(2147483647)=BAD write(-2147483648)=BAD write(-65504)=BAD write(-224)=BAD count(7)=0");
        c.told("yard 1,", "write(49)=8 fault()=0 write(59)=9 fault()=NONE lay()=0");

        c.of(2, "BAD; FULL: it has 200.");
        String most = "yard 1,1;path 0,0,1;" + "span 1;".repeat(25);
        c.told(most, "count(7)=195 'span' count(7)=199 write(32)=200 write(49)=FULL write(59)=FULL count(7)=200 fault()=195");
        c.told(most + "12345", "write(31)=BAD write(127)=BAD write(0)=BAD write(32)=FULL write(126)=FULL wipe()=200 write(126)=1");
    }

    private void wiping() {
        c.of(3, "THE TEXT is empty: how long it was.");
        c.fresh("wipe()=0 count(7)=0 write(65)=1 wipe()=1 count(7)=0 wipe()=0 write(66)=1");
        c.told("x".repeat(200), "count(7)=200 wipe()=200 count(7)=0 fault()=NONE lay()=NO 'yard 1,1;' lay()=0");
        c.laid("yard 1,1;path 0,0;come 0,0,5,6,9;", "give(0,0)=1 wipe()=33 count(0)=1 count(2)=1 count(4)=1 count(6)=1 train(0,6)=0 undo()=0");
    }

    private void laying() {
        c.of(5, "LAID: how many TRAINS; none has a TRACK, nothing can be UNDONE.");
        c.told("yard 1,1;", "lay()=0 count(2)=0 count(4)=0 undo()=NO");
        c.told("yard 1,1;path 0,0;" + COME.repeat(7), "lay()=7 count(2)=7 count(4)=0 train(0,6)=NONE train(6,6)=NONE count(6)=0 undo()=NO");
        c.told("yard 1,1;path 0,0;come 0,0,5,6,0;", "give(0,2)=1 late(1,1)=0 lay()=1 count(4)=0 count(6)=0 undo()=NO train(0,6)=NONE");
        c.laid("yard 1,1;path 0,0;come 0,0,5,6,0;", "give(0,0)=1 late(0,3)=0 wish(0,9)=0 lay()=1 train(0,6)=NONE train(0,2)=5 train(0,3)=6"
            + " train(0,4)=0 count(6)=0 undo()=NO");
        c.laid("yard 2,2;path 0,0,1;path 1,1,2;come 0,0,5,6,0;come 0,0,5,6,0;pair 0,1;", "wipe()=70 'yard 2,2;path 0,1;come 1,1,7,8,9;' lay()=1"
            + " route(0,0)=NONE route(1,1)=NONE route(0,1)=0 count(2)=1 train(0,5)=NONE train(1,0)=BAD clash(0,0,1,0)=BAD");

        c.of(5, "NO.");
        c.fresh("give(0,1)=1 late(1,3)=0 lay()=NO count(4)=1 count(6)=2 train(1,2)=15 undo()=1");
        c.told("yard 1,1;span 10;", "give(0,1)=1 lay()=NO count(0)=2 count(3)=1 count(4)=1 count(6)=1 undo()=0 lay()=NO undo()=NO");
        c.told("yard 1,1;yard 1,1;", "give(0,1)=1 lay()=NO train(0,6)=1 clash(0,1,1,1)=1 way(0,-1)=0");

        c.of(0, "THE TEXT stays when it is LAID.");
        c.told("yard 1,1;", "lay()=0 count(7)=9 fault()=NONE lay()=0 'path 0,0;' count(7)=18 route(0,0)=NONE lay()=0 route(0,0)=0 wipe()=18");
    }
}
