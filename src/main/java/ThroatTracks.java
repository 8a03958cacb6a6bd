/**
 * Trains given tracks through the throat of a station.
 *
 * The words in comments (LINE, TRACK, FITS, CLASH, WAY ..) are those of the document.
 * All rows are made in constructors: no call makes an object.
 */
public final class ThroatTracks {
    public static final int BAD = -1, NO = -2, FULL = -3, NONE = -4;

    private static final int MOST_LINES = 3;
    private static final int MOST_TRACKS = 4;
    private static final int MOST_TRAINS = 7;
    private static final int SWITCHES = 12;
    private static final int MINUTES = 100;
    private static final int FIRST_STAY = 1;
    private static final int LAST_STAY = 98;
    private static final int MOST_GAP = 9;
    private static final int NO_WISH = 9;
    private static final int MOST_EARLY = -20;
    private static final int MOST_LATE = 60;
    private static final int MOST_UNDONE = 6;
    private static final int MOST_LETTERS = 200;
    private static final int FIRST_LETTER = 32;
    private static final int LAST_LETTER = 126;
    private static final int BEST = 0;
    private static final int NEAREST = 1;

    private static final String AT_FIRST = "yard 2,3;path 0,0,1;path 0,1,1,2;path 0,2,1,2,3;path 1,0,4,5;path 1,1,4;path 1,2,3;come 0,1,10,20,1;come 1,0,12,18,9;come 0,0,15,25,1;come 1,1,22,30,0;span 1;";

    private final Text text = new Text();
    private final Yard yard = new Yard();
    private final Plan plan = new Plan();
    private final Reader reader = new Reader(text, yard, plan);
    /** Reads THE TEXT where it spoils nothing, to find its FAULT. */
    private final Reader proof = new Reader(text, new Yard(), new Plan());
    private final Clashes clashes = new Clashes(yard, plan);
    private final Search search = new Search(yard, plan, clashes);
    private final Past past = new Past();

    public ThroatTracks() {
        for (int k = 0; k < AT_FIRST.length(); k++) {
            write(AT_FIRST.charAt(k));
        }
        lay();
        wipe();
    }

    // ---- told

    public int write(int letter) {
        if (letter < FIRST_LETTER || letter > LAST_LETTER) {
            return BAD;
        }
        return text.append(letter) ? text.length : FULL;
    }

    public int wipe() {
        int length = text.length;
        text.length = 0;
        return length;
    }

    public int fault() {
        return proof.firstFault();
    }

    public int lay() {
        if (proof.firstFault() != NONE || proof.yard.lines == 0) {
            return NO;
        }
        reader.firstFault();
        clashes.workOut();
        past.size = 0;
        return yard.trains;
    }

    // ---- the yard

    public int route(int line, int track) {
        if (!yard.hasLine(line) || !yard.hasTrack(track)) {
            return BAD;
        }
        return yard.switchesOf(line, track);
    }

    public int train(int i, int what) {
        if (!yard.hasTrain(i)) {
            return BAD;
        }
        switch (what) {
            case 0: return yard.lineIn[i];
            case 1: return yard.lineOut[i];
            case 2: return plan.arrives[i];
            case 3: return plan.leaves[i];
            case 4: return plan.wished[i] == NO_WISH ? NONE : plan.wished[i];
            case 5: return yard.mate[i];
            case 6: return plan.placed[i];
            case 7: return fittingTracks(i);
            case 8: return clashes.freeTracks(i);
            default: return BAD;
        }
    }

    private int fittingTracks(int i) {
        int bits = 0;
        for (int track = 0; track < yard.tracks; track++) {
            if (yard.fits(i, track)) {
                bits |= 1 << track;
            }
        }
        return bits;
    }

    // ---- places

    public int give(int i, int track) {
        if (!yard.hasTrain(i) || !yard.hasTrack(track)) {
            return BAD;
        }
        if (plan.placed[i] != NONE || !clashes.isFree(i, track)) {
            return NO;
        }
        past.keep(plan);
        plan.placed[i] = track;
        return placedTrains();
    }

    public int take(int i) {
        if (!yard.hasTrain(i)) {
            return BAD;
        }
        int track = plan.placed[i];
        if (track == NONE) {
            return NO;
        }
        past.keep(plan);
        plan.placed[i] = NONE;
        return track;
    }

    public int why(int i, int track) {
        if (!yard.hasTrain(i) || !yard.hasTrack(track)) {
            return BAD;
        }
        if (yard.routeIn(i, track) == NONE) {
            return 1;
        }
        if (yard.routeOut(i, track) == NONE) {
            return 2;
        }
        int other = clashes.firstAgainst(i, track);
        return other == NONE ? 0 : 3 + other;
    }

    public int clash(int i, int track, int j, int other) {
        if (!yard.hasTrain(i) || !yard.hasTrain(j) || i == j) {
            return BAD;
        }
        if (!yard.hasTrack(track) || !yard.hasTrack(other)) {
            return BAD;
        }
        return clashes.kind(i, track, j, other);
    }

    public int late(int i, int d) {
        if (!yard.hasTrain(i) || d == 0 || d < MOST_EARLY || d > MOST_LATE) {
            return BAD;
        }
        if (plan.arrives[i] + d < FIRST_STAY || plan.leaves[i] + d > LAST_STAY) {
            return NO;
        }
        past.keep(plan);
        plan.arrives[i] += d;
        plan.leaves[i] += d;
        clashes.workOut();
        int track = plan.placed[i];
        if (track == NONE || clashes.isFree(i, track)) {
            return 0;
        }
        plan.placed[i] = NONE;
        return 1;
    }

    public int wish(int i, int track) {
        if (!yard.hasTrain(i) || track != NO_WISH && !yard.hasTrack(track)) {
            return BAD;
        }
        int before = plan.wished[i];
        if (before == track) {
            return NO;
        }
        past.keep(plan);
        plan.wished[i] = track;
        return before;
    }

    // ---- ways

    public int way(int law, int i) {
        if (law != BEST && law != NEAREST || i < -3 || i >= yard.trains) {
            return BAD;
        }
        search.find(law);
        switch (i) {
            case -1: return search.trackless();
            case -2: return wishesMet(search.found);
            case -3: return movedBy(search.found);
            default: return search.found[i];
        }
    }

    public int adopt(int law) {
        if (law != BEST && law != NEAREST) {
            return BAD;
        }
        search.find(law);
        int moved = movedBy(search.found);
        past.keep(plan);
        System.arraycopy(search.found, 0, plan.placed, 0, yard.trains);
        return moved;
    }

    public int without(int s) {
        if (s < 0 || s >= SWITCHES) {
            return BAD;
        }
        search.findAvoiding(1 << s);
        return search.trackless();
    }

    public int undo() {
        if (past.size == 0) {
            return NO;
        }
        past.bringBack(plan);
        clashes.workOut();
        return past.size;
    }

    // ---- in use

    public int on(int track, int minute) {
        if (!yard.hasTrack(track) || minute < 0 || minute >= MINUTES) {
            return BAD;
        }
        return trainsOn(track, minute);
    }

    public int taken(int minute) {
        if (minute < 0 || minute >= MINUTES) {
            return BAD;
        }
        return switchesIn(minute);
    }

    public int use(int what, int k) {
        if (what == 0) {
            return yard.hasTrack(k) ? minutesOfTrack(k) : BAD;
        }
        if (what == 1) {
            return k >= 0 && k < SWITCHES ? minutesOfSwitch(k) : BAD;
        }
        return BAD;
    }

    public int count(int what) {
        switch (what) {
            case 0: return yard.lines;
            case 1: return yard.tracks;
            case 2: return yard.trains;
            case 3: return yard.gap;
            case 4: return placedTrains();
            case 5: return wishesMet(plan.placed);
            case 6: return past.size;
            case 7: return text.length;
            default: return BAD;
        }
    }

    private int placedTrains() {
        int sum = 0;
        for (int i = 0; i < yard.trains; i++) {
            if (plan.placed[i] != NONE) {
                sum++;
            }
        }
        return sum;
    }

    /** No TRACK is NO_WISH and none is NONE, so what is equal is a WISH met. */
    private int wishesMet(int[] places) {
        int sum = 0;
        for (int i = 0; i < yard.trains; i++) {
            if (places[i] == plan.wished[i]) {
                sum++;
            }
        }
        return sum;
    }

    private int movedBy(int[] places) {
        int sum = 0;
        for (int i = 0; i < yard.trains; i++) {
            if (places[i] != plan.placed[i]) {
                sum++;
            }
        }
        return sum;
    }

    private int trainsOn(int track, int minute) {
        int bits = 0;
        for (int i = 0; i < yard.trains; i++) {
            if (plan.placed[i] == track && plan.arrives[i] <= minute && minute <= plan.leaves[i]) {
                bits |= 1 << i;
            }
        }
        return bits;
    }

    private int switchesIn(int minute) {
        int bits = 0;
        for (int i = 0; i < yard.trains; i++) {
            int track = plan.placed[i];
            if (track != NONE && plan.comesIn(i, minute)) {
                bits |= yard.routeIn(i, track);
            }
            if (track != NONE && plan.goesOut(i, minute)) {
                bits |= yard.routeOut(i, track);
            }
        }
        return bits;
    }

    private int minutesOfTrack(int track) {
        int sum = 0;
        for (int minute = 0; minute < MINUTES; minute++) {
            if (trainsOn(track, minute) != 0) {
                sum++;
            }
        }
        return sum;
    }

    private int minutesOfSwitch(int s) {
        int sum = 0;
        for (int minute = 0; minute < MINUTES; minute++) {
            if ((switchesIn(minute) >> s & 1) != 0) {
                sum++;
            }
        }
        return sum;
    }

    /** THE TEXT. */
    private static final class Text {
        final char[] letters = new char[MOST_LETTERS];
        int length = 0;

        boolean append(int letter) {
            if (length >= MOST_LETTERS) {
                return false;
            }
            letters[length] = (char) letter;
            length++;
            return true;
        }

        /** Behind the end there is a letter that no ITEM has, so that readers need not look for the end. */
        int letterAt(int at) {
            return at >= 0 && at < length ? letters[at] : 0;
        }
    }

    /** What only LAID changes. A ROUTE is its SWITCHES as bits, or NONE. */
    private static final class Yard {
        int lines = 0;
        int tracks = 0;
        int trains = 0;
        int gap = 1;
        final int[] routes = new int[MOST_LINES * MOST_TRACKS];
        final int[] lineIn = new int[MOST_TRAINS];
        final int[] lineOut = new int[MOST_TRAINS];
        final int[] mate = new int[MOST_TRAINS];

        void clear() {
            lines = 0;
            tracks = 0;
            trains = 0;
            gap = 1;
            for (int k = 0; k < routes.length; k++) {
                routes[k] = NONE;
            }
        }

        boolean hasLine(int line) {
            return line >= 0 && line < lines;
        }

        boolean hasTrack(int track) {
            return track >= 0 && track < tracks;
        }

        boolean hasTrain(int i) {
            return i >= 0 && i < trains;
        }

        int switchesOf(int line, int track) {
            return routes[line * MOST_TRACKS + track];
        }

        int routeIn(int i, int track) {
            return routes[lineIn[i] * MOST_TRACKS + track];
        }

        int routeOut(int i, int track) {
            return routes[lineOut[i] * MOST_TRACKS + track];
        }

        boolean fits(int i, int track) {
            return routeIn(i, track) != NONE && routeOut(i, track) != NONE;
        }

        boolean areCoupled(int i, int j) {
            return mate[i] == j;
        }
    }

    /** What a change can alter, and so what is kept to undo it. */
    private static final class Plan {
        final int[] arrives = new int[MOST_TRAINS];
        final int[] leaves = new int[MOST_TRAINS];
        final int[] wished = new int[MOST_TRAINS];
        final int[] placed = new int[MOST_TRAINS];

        void copy(Plan other) {
            System.arraycopy(other.arrives, 0, arrives, 0, MOST_TRAINS);
            System.arraycopy(other.leaves, 0, leaves, 0, MOST_TRAINS);
            System.arraycopy(other.wished, 0, wished, 0, MOST_TRAINS);
            System.arraycopy(other.placed, 0, placed, 0, MOST_TRAINS);
        }

        boolean comesIn(int i, int minute) {
            return minute == arrives[i] - 1 || minute == arrives[i];
        }

        boolean goesOut(int i, int minute) {
            return minute == leaves[i] || minute == leaves[i] + 1;
        }
    }

    /** The PLANS ahead of the last changes, the oldest one overwritten when there is no room. */
    private static final class Past {
        final Plan[] kept = new Plan[MOST_UNDONE];
        int next = 0;
        int size = 0;

        Past() {
            for (int k = 0; k < MOST_UNDONE; k++) {
                kept[k] = new Plan();
            }
        }

        void keep(Plan plan) {
            kept[next].copy(plan);
            next = next == MOST_UNDONE - 1 ? 0 : next + 1;
            size = Math.min(size + 1, MOST_UNDONE);
        }

        void bringBack(Plan plan) {
            next = next == 0 ? MOST_UNDONE - 1 : next - 1;
            size--;
            plan.copy(kept[next]);
        }
    }

    /** Reads THE TEXT, ITEM by ITEM, into a yard and a plan. */
    private static final class Reader {
        static final String WORDS = "yard path come pair span ";
        static final int WORD_LENGTH = 5;
        static final int YARD = 0, PATH = 1, COME = 2, PAIR = 3, SPAN = 4, WORD_COUNT = 5;
        static final int MOST_NUMBERS = 6;

        final Text text;
        final Yard yard;
        final Plan plan;
        final int[] numbers = new int[MOST_NUMBERS];
        int size = 0;

        Reader(Text text, Yard yard, Plan plan) {
            this.text = text;
            this.yard = yard;
            this.plan = plan;
        }

        /** What stands ahead of the FAULT is in the yard and in the plan then. */
        int firstFault() {
            yard.clear();
            int at = 0;
            for (int items = 0; items < MOST_LETTERS && at < text.length; items++) {
                int word = wordAt(at);
                int end = word == NONE ? NONE : readNumbers(at + WORD_LENGTH);
                if (end == NONE || !isTold(word)) {
                    return at;
                }
                at = end;
            }
            return NONE;
        }

        /** The blank behind a word counts as its last letter. */
        int wordAt(int at) {
            for (int word = 0; word < WORD_COUNT; word++) {
                int same = 0;
                for (int k = 0; k < WORD_LENGTH; k++) {
                    if (text.letterAt(at + k) == WORDS.charAt(word * WORD_LENGTH + k)) {
                        same++;
                    }
                }
                if (same == WORD_LENGTH) {
                    return word;
                }
            }
            return NONE;
        }

        /** Where the ITEM ends, behind its ; or NONE. */
        int readNumbers(int from) {
            int at = from;
            for (int k = 0; k < MOST_NUMBERS; k++) {
                if (!isFigure(at)) {
                    return NONE;
                }
                int number = text.letterAt(at) - '0';
                at++;
                if (isFigure(at)) {
                    number = number * 10 + text.letterAt(at) - '0';
                    at++;
                }
                numbers[k] = number;
                size = k + 1;
                int mark = text.letterAt(at);
                at++;
                if (mark == ';') {
                    return at;
                }
                if (mark != ',') {
                    return NONE;
                }
            }
            return NONE;
        }

        boolean isFigure(int at) {
            int letter = text.letterAt(at);
            return letter >= '0' && letter <= '9';
        }

        boolean isTold(int word) {
            if (word == YARD) {
                return tellYard();
            }
            if (yard.lines == 0) {
                return false;
            }
            switch (word) {
                case PATH: return tellPath();
                case COME: return tellTrain();
                case PAIR: return tellPair();
                case SPAN: return tellGap();
                default: return false;
            }
        }

        boolean tellYard() {
            if (size != 2 || yard.lines != 0) {
                return false;
            }
            int lines = numbers[0];
            int tracks = numbers[1];
            if (lines < 1 || lines > MOST_LINES || tracks < 1 || tracks > MOST_TRACKS) {
                return false;
            }
            yard.lines = lines;
            yard.tracks = tracks;
            return true;
        }

        boolean tellPath() {
            if (size < 2 || !yard.hasLine(numbers[0]) || !yard.hasTrack(numbers[1])) {
                return false;
            }
            int bits = 0;
            for (int k = 2; k < size; k++) {
                if (numbers[k] >= SWITCHES) {
                    return false;
                }
                bits |= 1 << numbers[k];
            }
            int place = numbers[0] * MOST_TRACKS + numbers[1];
            if (yard.routes[place] != NONE) {
                return false;
            }
            yard.routes[place] = bits;
            return true;
        }

        boolean tellTrain() {
            int i = yard.trains;
            if (size != 5 || i >= MOST_TRAINS || !isTrain()) {
                return false;
            }
            yard.lineIn[i] = numbers[0];
            yard.lineOut[i] = numbers[1];
            yard.mate[i] = NONE;
            plan.arrives[i] = numbers[2];
            plan.leaves[i] = numbers[3];
            plan.wished[i] = numbers[4];
            plan.placed[i] = NONE;
            yard.trains++;
            return true;
        }

        boolean isTrain() {
            boolean lines = yard.hasLine(numbers[0]) && yard.hasLine(numbers[1]);
            boolean stay = numbers[2] >= FIRST_STAY && numbers[3] >= numbers[2] && numbers[3] <= LAST_STAY;
            boolean wish = numbers[4] == NO_WISH || yard.hasTrack(numbers[4]);
            return lines && stay && wish;
        }

        boolean tellPair() {
            int i = numbers[0];
            int j = numbers[1];
            if (size != 2 || i == j || !yard.hasTrain(i) || !yard.hasTrain(j)) {
                return false;
            }
            if (yard.mate[i] != NONE || yard.mate[j] != NONE) {
                return false;
            }
            yard.mate[i] = j;
            yard.mate[j] = i;
            return true;
        }

        boolean tellGap() {
            if (size != 1 || numbers[0] > MOST_GAP) {
                return false;
            }
            yard.gap = numbers[0];
            return true;
        }
    }

    /**
     * What CLASHES. A seat is a TRAIN on a TRACK; 28 seats at most, so a set of seats is the bits of an int.
     * The sets are worked out when MINUTES change, for a search asks for them over and over.
     */
    private static final class Clashes {
        static final int ON_TRACK = 1, ON_SWITCH = 2;

        final Yard yard;
        final Plan plan;
        final int[] against = new int[MOST_TRAINS * MOST_TRACKS];

        Clashes(Yard yard, Plan plan) {
            this.yard = yard;
            this.plan = plan;
        }

        static int seat(int i, int track) {
            return i * MOST_TRACKS + track;
        }

        void workOut() {
            for (int i = 0; i < yard.trains; i++) {
                for (int track = 0; track < yard.tracks; track++) {
                    against[seat(i, track)] = seatsAgainst(i, track);
                }
            }
        }

        int seatsAgainst(int i, int track) {
            int bits = 0;
            for (int j = 0; j < yard.trains; j++) {
                for (int other = 0; other < yard.tracks; other++) {
                    if (j != i && kind(i, track, j, other) != 0) {
                        bits |= 1 << seat(j, other);
                    }
                }
            }
            return bits;
        }

        int kind(int i, int track, int j, int other) {
            if (!yard.fits(i, track) || !yard.fits(j, other)) {
                return 0;
            }
            if (track == other && yard.areCoupled(i, j)) {
                return 0;
            }
            int kind = 0;
            if (track == other && !isBehind(i, j) && !isBehind(j, i)) {
                kind |= ON_TRACK;
            }
            if (shareSwitch(i, track, j, other)) {
                kind |= ON_SWITCH;
            }
            return kind;
        }

        boolean isBehind(int i, int j) {
            return plan.arrives[i] >= plan.leaves[j] + Math.max(yard.gap, 1);
        }

        /** A ROUTE is had for two MINUTES, told here by the first of them. */
        boolean shareSwitch(int i, int track, int j, int other) {
            int in = yard.routeIn(i, track);
            int out = yard.routeOut(i, track);
            int otherIn = yard.routeIn(j, other);
            int otherOut = yard.routeOut(j, other);
            int inFrom = plan.arrives[i] - 1;
            int otherInFrom = plan.arrives[j] - 1;
            return meet(in & otherIn, inFrom, otherInFrom)
                || meet(in & otherOut, inFrom, plan.leaves[j])
                || meet(out & otherIn, plan.leaves[i], otherInFrom)
                || meet(out & otherOut, plan.leaves[i], plan.leaves[j]);
        }

        static boolean meet(int switches, int from, int otherFrom) {
            return switches != 0 && from - otherFrom <= 1 && otherFrom - from <= 1;
        }

        /** The lowest TRAIN whose place as it stands is against this one, or NONE. */
        int firstAgainst(int i, int track) {
            int seats = against[seat(i, track)];
            for (int j = 0; j < yard.trains; j++) {
                int other = plan.placed[j];
                if (other != NONE && (seats >> seat(j, other) & 1) != 0) {
                    return j;
                }
            }
            return NONE;
        }

        boolean isFree(int i, int track) {
            return yard.fits(i, track) && firstAgainst(i, track) == NONE;
        }

        int freeTracks(int i) {
            int sum = 0;
            for (int track = 0; track < yard.tracks; track++) {
                if (isFree(i, track)) {
                    sum++;
                }
            }
            return sum;
        }
    }

    /**
     * The search for the WAY with the least cost. A TRAIN without a TRACK costs WITHOUT_TRACK, which outweighs
     * all that TRAINS can cost else: 1 for each that has no TRACK it WISHES for (or has it otherwise than now).
     */
    private static final class Search {
        static final int WITHOUT_TRACK = 8;
        static final int TOO_DEAR = 1000;
        static final int OPTIONS = MOST_TRACKS + 1;

        final Yard yard;
        final Plan plan;
        final Clashes clashes;
        /** By TRAIN and TRACK, last without one; TOO_DEAR where the TRACK can not be had at all. */
        final int[] costs = new int[MOST_TRAINS * OPTIONS];
        /** What this TRAIN and all behind it cost at the least. */
        final int[] atLeast = new int[MOST_TRAINS + 1];
        final int[] trial = new int[MOST_TRAINS];
        final int[] found = new int[MOST_TRAINS];
        int leastCost = TOO_DEAR;

        Search(Yard yard, Plan plan, Clashes clashes) {
            this.yard = yard;
            this.plan = plan;
            this.clashes = clashes;
        }

        void find(int law) {
            weigh(law, 0);
            start();
        }

        void findAvoiding(int switches) {
            weigh(BEST, switches);
            start();
        }

        /** How many have none in the WAY that was found. */
        int trackless() {
            int sum = 0;
            for (int i = 0; i < yard.trains; i++) {
                if (found[i] == NONE) {
                    sum++;
                }
            }
            return sum;
        }

        void weigh(int law, int avoided) {
            for (int i = 0; i < yard.trains; i++) {
                int aim = law == BEST ? plan.wished[i] : plan.placed[i];
                for (int track = 0; track < yard.tracks; track++) {
                    boolean usable = yard.fits(i, track)
                        && ((yard.routeIn(i, track) | yard.routeOut(i, track)) & avoided) == 0;
                    costs[i * OPTIONS + track] = usable ? costOf(aim, track) : TOO_DEAR;
                }
                costs[i * OPTIONS + MOST_TRACKS] = WITHOUT_TRACK + costOf(aim, NONE);
            }
        }

        static int costOf(int aim, int place) {
            return aim == place ? 0 : 1;
        }

        void start() {
            atLeast[yard.trains] = 0;
            for (int i = yard.trains - 1; i >= 0; i--) {
                int least = costs[i * OPTIONS + MOST_TRACKS];
                for (int track = 0; track < yard.tracks; track++) {
                    least = Math.min(least, costs[i * OPTIONS + track]);
                }
                atLeast[i] = atLeast[i + 1] + least;
            }
            leastCost = TOO_DEAR;
            seek(0, 0, 0);
        }

        /** TRACKS are tried in the document's order and only what costs less is kept: so the first stays. */
        private void seek(int i, int cost, int seats) {
            if (i >= yard.trains) {
                keepIfLess(cost);
                return;
            }
            if (cost + atLeast[i] >= leastCost) {
                return;
            }
            for (int track = 0; track < yard.tracks; track++) {
                int more = costs[i * OPTIONS + track];
                int seat = Clashes.seat(i, track);
                if (more != TOO_DEAR && (clashes.against[seat] & seats) == 0) {
                    trial[i] = track;
                    seek(i + 1, cost + more, seats | 1 << seat);
                }
            }
            trial[i] = NONE;
            seek(i + 1, cost + costs[i * OPTIONS + MOST_TRACKS], seats);
        }

        void keepIfLess(int cost) {
            if (cost < leastCost) {
                leastCost = cost;
                System.arraycopy(trial, 0, found, 0, MOST_TRAINS);
            }
        }
    }
}
