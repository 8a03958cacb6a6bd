/** The edges of what is in use: on, taken, use, count. */
final class EdgesOfUse {
    private static final String FAR = "2147483647";
    private static final String LOW = "-2147483648";
    private static final String FIRST_SEVEN = "yard 1,4;path 0,0;path 0,3;";
    private final Cases c;

    EdgesOfUse(Cases cases) {
        c = cases;
    }

    void all() {
        minutes();
        on();
        taken();
        use();
        count();
    }

    private void minutes() {
        c.of(0, "MINUTES are 0 to 99.");
        c.fresh("on(0,-1)=BAD on(0,0)=0 on(0,99)=0 on(0,100)=BAD taken(-1)=BAD taken(0)=0 taken(99)=0 taken(100)=BAD");
        c.laid("yard 1,1;path 0,0,1;come 0,0,1,98,9;", "give(0,0)=1 taken(-1)=BAD taken(0)=2 taken(99)=2 taken(100)=BAD on(0,0)=0 on(0,99)=0 use(1,1)=4 use(0,0)=98");
    }

    private void on() {
        c.of(18, "TRAINS that have a TRACK in a MINUTE (0 to 99), as bits.");
        c.laid("yard 1,2;path 0,0;path 0,1;come 0,0,1,5,9;come 0,0,3,98,9;come 0,0,7,7,9;pair 0,1;", "on(0,3)=0 give(0,0)=1 give(1,0)=2 give(2,1)=3"
            + " on(0,0)=0 on(0,1)=1 on(0,2)=1 on(0,3)=3 on(0,5)=3 on(0,6)=2 on(0,98)=2 on(0,99)=0 on(1,6)=0 on(1,7)=4 on(1,8)=0 on(1,0)=0 on(1,99)=0");
        c.laid(FIRST_SEVEN + "come 0,0,5,9,9;".repeat(7), "give(6,3)=1 give(0,0)=2 on(3,5)=64 on(0,5)=1 on(1,5)=0 on(2,5)=0 on(3,4)=0 on(3,9)=64 on(3,10)=0");
        c.of(18, "BAD.");
        c.fresh("give(0,2)=1 on(2,10)=1 on(3,10)=BAD on(-1,10)=BAD on(-4,10)=BAD on(2,100)=BAD on(2,-1)=BAD on(3,100)=BAD on(" + FAR + ",0)=BAD on(" + LOW
            + ",0)=BAD on(0," + FAR + ")=BAD on(0," + LOW + ")=BAD on(9,0)=BAD");
        c.laid("yard 1,1;", "on(0,0)=0 on(1,0)=BAD");
    }

    private void taken() {
        c.of(19, "SWITCHES that are taken in a MINUTE (0 to 99), as bits.");
        c.laid("yard 2,2;path 0,0,0,3;path 1,0,11;path 0,1;path 1,1,5;come 0,1,1,98,9;come 1,1,50,50,9;", "taken(0)=0 taken(98)=0 give(0,0)=1 give(1,1)=2"
            + " taken(0)=9 taken(1)=9 taken(2)=0 taken(48)=0 taken(49)=32 taken(50)=32 taken(51)=32 taken(52)=0 taken(97)=0 taken(98)=2048 taken(99)=2048");
        c.laid("yard 2,2;path 0,0,0;path 1,1,1;come 0,0,10,20,9;come 1,1,10,20,9;", "give(0,0)=1 give(1,1)=2 taken(8)=0 taken(9)=3 taken(10)=3 taken(11)=0"
            + " taken(19)=0 taken(20)=3 taken(21)=3 taken(22)=0 take(0)=0 taken(9)=2");
        c.of(19, "BAD.");
        c.fresh("give(0,2)=1 taken(100)=BAD taken(-1)=BAD taken(" + FAR + ")=BAD taken(" + LOW + ")=BAD taken(10)=14");
    }

    private void use() {
        c.of(20, "In how many MINUTES a TRACK is had (what = 0), a SWITCH (0 to 11) is taken (1).");
        c.laid("yard 2,2;path 0,0,0;path 1,0,11;path 0,1;path 1,1,5;come 0,1,1,5,9;come 0,1,3,98,9;come 1,1,50,51,9;pair 0,1;", "use(0,0)=0 use(1,0)=0"
            + " give(0,0)=1 use(0,0)=5 give(1,0)=2 give(2,1)=3 use(0,0)=98 use(0,1)=2 use(1,0)=4 use(1,11)=4 use(1,5)=4 use(1,4)=0 take(2)=1 use(1,5)=0 use(0,1)=0");
        c.laid("yard 1,4;path 0,3,0;come 0,0,5,5,9;come 0,0,9,9,9;", "give(0,3)=1 use(0,3)=1 use(1,0)=3 give(1,3)=2 use(0,3)=2 use(1,0)=6");
        c.laid("yard 1,1;path 0,0,11;come 0,0,1,98,9;", "give(0,0)=1 use(0,0)=98 use(1,11)=4");
        c.of(20, "BAD.");
        c.fresh("use(0,2)=0 use(0,3)=BAD use(0,-1)=BAD use(1,11)=0 use(1,12)=BAD use(1,-1)=BAD use(2,0)=BAD use(-1,0)=BAD use(0,11)=BAD use(0," + FAR
            + ")=BAD use(0," + LOW + ")=BAD use(1," + FAR + ")=BAD use(1," + LOW + ")=BAD use(" + FAR + ",0)=BAD use(" + LOW + ",0)=BAD use(1,32)=BAD use(2,12)=BAD");
        c.laid("yard 1,1;", "use(0,0)=0 use(0,1)=BAD use(1,0)=0 use(1,11)=0");
    }

    private void count() {
        c.of(21, "How many: 0 LINES, 1 TRACKS, 2 TRAINS, 3 GAP, 4 TRAINS that have a TRACK, 5 that have the one they WISH for, 6 changes that can be UNDONE, "
            + "7 letters of THE TEXT.");
        c.laid("yard 3,4;path 0,0;path 0,1;come 0,0,1,5,0;come 0,0,2,5,0;come 0,0,7,9,9;span 2;", "count(4)=0 count(5)=0 count(6)=0 give(0,0)=1 give(1,1)=2"
            + " give(2,0)=3 count(0)=3 count(1)=4 count(2)=3 count(3)=2 count(4)=3 count(5)=1 count(6)=3 count(7)=79 wish(1,1)=0 count(5)=2 wish(1,9)=1 count(5)=1"
            + " take(1)=1 count(4)=2 count(5)=1 take(0)=0 count(5)=0 count(6)=6 wipe()=79 count(7)=0");
        c.laid("yard 1,1;", "count(0)=1 count(1)=1 count(2)=0 count(3)=1 count(4)=0 count(5)=0 count(6)=0 count(7)=9");
        c.laid(FIRST_SEVEN + "come 0,0,1,1,3;come 0,0,2,2,3;come 0,0,3,3,3;come 0,0,4,4,3;come 0,0,5,5,3;come 0,0,6,6,3;come 0,0,7,7,3;span 0;",
            "adopt(0)=7 count(2)=7 count(3)=0 count(4)=7 count(5)=7 count(6)=1 count(7)=139");
        c.of(21, "BAD.");
        c.fresh("count(8)=BAD count(-1)=BAD count(" + FAR + ")=BAD count(" + LOW + ")=BAD count(0)=2 count(7)=0");
    }
}
