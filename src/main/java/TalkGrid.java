import java.util.Arrays;

/** A desk for talks side by side: marks, rules, sessions, a grid of slots and rooms, and days. */
public final class TalkGrid {
    public static final int NONE = -1;
    public static final int RANGE = -2;
    public static final int FULL = -3;
    public static final int STATE = -4;

    private static final int NO_RULE = -9;

    private static final int PEOPLE = 40;
    private static final int HOUSES = 10;
    private static final int TALKS = 40;
    private static final int THEMES = 8;
    private static final int MOST_POINTS = 20;
    private static final int MARKS_OF_READER = 8;
    private static final int TAPE_BYTES = 400;
    private static final int FEED_BYTES = 20;
    private static final int SESSIONS = 8;
    private static final int ROW = 6;
    private static final int SLOTS = 5;
    private static final int ROOMS = 6;
    private static final int MOST_EARS = 999;
    private static final int MOST_WISHES = 9999;
    private static final int MOST_OVER = 60;
    private static final int FIRST_TALK = 10;

    private static final int FROM = 0;
    private static final int TO = 1;
    private static final int MIXED = 2;
    private static final int CHAIR = 3;
    private static final int THEME = 4;
    private static final int ROOM = 5;
    private static final int GAP = 6;
    private static final int OVER = 7;
    private static final int FILL = 8;
    private static final int RULES = 9;
    private static final int[] UNTOLD = {1, 4, 1, 0, 8, 100, 5, 1, 0};

    private final Tape tape;
    private final RuleReader ruleReader;
    private final int[] book;
    private final Roster roster;
    private final Marks marks;
    private final Sessions sessions;
    private final Grid grid;
    private final Layer layer;
    private final Laying nothing;
    private final Laying planned;
    private final Laying printed;

    public TalkGrid() {
        tape = new Tape();
        ruleReader = new RuleReader(tape);
        book = new int[RULES];
        System.arraycopy(UNTOLD, 0, book, 0, RULES);
        roster = new Roster();
        marks = new Marks(roster);
        sessions = new Sessions(roster);
        grid = new Grid();
        layer = new Layer(sessions, grid, book);
        nothing = new Laying();
        planned = new Laying();
        printed = new Laying();
    }

    public int feed(int a, int b, int c, int d, int e) {
        if (tape.length > TAPE_BYTES - FEED_BYTES) {
            return FULL;
        }
        tape.append(a);
        tape.append(b);
        tape.append(c);
        tape.append(d);
        tape.append(e);
        return tape.length;
    }

    public int end(int n) {
        if (n < 0 || n > tape.length) {
            return NONE;
        }
        tape.length = n;
        return n;
    }

    public int house(int p, int house) {
        if (!isIndex(p, PEOPLE) || !isIndex(house, HOUSES)) {
            return RANGE;
        }
        int was = roster.house[p];
        roster.house[p] = house;
        return was;
    }

    public int talk(int theme, int minutes, int ears, int p, int q, int r) {
        if (!isIndex(theme, THEMES) || minutes < 5 || minutes > 60 || ears < 1 || ears > MOST_EARS
                || !canSpeak(p, q, r)) {
            return RANGE;
        }
        if (roster.size >= TALKS) {
            return FULL;
        }
        return roster.add(theme, minutes, ears, personBit(p) | personBit(q) | personBit(r));
    }

    public int mark(int reader, int t, int points) {
        if (!isIndex(reader, PEOPLE) || !isIndex(t, roster.size) || points < 0 || points > MOST_POINTS) {
            return RANGE;
        }
        if (roster.bars(t, reader) || marks.has(reader, t)) {
            return STATE;
        }
        if (marks.given[reader] >= MARKS_OF_READER) {
            return FULL;
        }
        return marks.add(reader, t, points);
    }

    public int score(int t, int what) {
        if (!isIndex(t, roster.size) || !isIndex(what, 2) || marks.got[t] == 0) {
            return 0;
        }
        int above = marks.sharesOf(t);
        int below = Marks.SHARES * marks.got[t];
        int common = commonDivisor(Math.abs(above), below);
        if (common < 1) {
            return 0;
        }
        return what == 0 ? above / common : below / common;
    }

    public int ranked(int i) {
        return isIndex(i, roster.size) ? marks.talkOfRank(i) : NONE;
    }

    public int rules() {
        int lines = ruleReader.readText();
        tape.length = 0;
        if (lines != NONE) {
            System.arraycopy(ruleReader.values, 0, book, 0, RULES);
        }
        return lines;
    }

    public int fault(int what) {
        switch (what) {
            case 0:
                return ruleReader.faultKind;
            case 1:
                return ruleReader.faultPlace;
            default:
                return NONE;
        }
    }

    public int rule(int what) {
        return isIndex(what, RULES) ? book[what] : NO_RULE;
    }

    public int open(int s, int chair, boolean keynote) {
        if (!isIndex(s, SESSIONS) || !isIndex(chair, PEOPLE)) {
            return RANGE;
        }
        if (sessions.isOpen[s]) {
            return STATE;
        }
        sessions.begin(s, chair, keynote);
        return 1;
    }

    public int shut(int s) {
        if (!isIndex(s, SESSIONS)) {
            return RANGE;
        }
        if (!sessions.isOpen[s]) {
            return STATE;
        }
        return sessions.close(s);
    }

    public int put(int s, int t) {
        if (!isIndex(s, SESSIONS) || !isIndex(t, roster.size)) {
            return RANGE;
        }
        if (!sessions.isOpen[s] || !roster.waits(t)) {
            return STATE;
        }
        if (sessions.size[s] >= ROW) {
            return FULL;
        }
        return sessions.append(s, t);
    }

    public int fallOut(int t) {
        if (!isIndex(t, roster.size)) {
            return RANGE;
        }
        if (roster.fallen[t]) {
            return STATE;
        }
        int was = roster.sessionOf[t];
        if (was != NONE) {
            sessions.remove(was, t);
        }
        roster.fallen[t] = true;
        return was;
    }

    public int fill(int s) {
        if (!isIndex(s, SESSIONS)) {
            return RANGE;
        }
        if (!sessions.isOpen[s]) {
            return STATE;
        }
        if (sessions.size[s] >= book[TO] || sessions.size[s] >= ROW) {
            return NONE;
        }
        int t = firstThatFills(s);
        if (t != NONE) {
            sessions.append(s, t);
        }
        return t;
    }

    public int session(int s, int what) {
        if (!isIndex(s, SESSIONS)) {
            return NONE;
        }
        if (what == 0) {
            return sessions.isOpen[s] ? 1 : 0;
        }
        if (!sessions.isOpen[s]) {
            return NONE;
        }
        switch (what) {
            case 1:
                return sessions.size[s];
            case 2:
                return sessions.chair[s];
            case 3:
                return sessions.themeOf(s);
            case 4:
                return sessions.earsOf(s);
            case 5:
                return sessions.wrongOf(s, book);
            case 6:
                return sessions.isKeynote[s] ? 1 : 0;
            default:
                return what < FIRST_TALK ? NONE : sessions.talkAt(s, what - FIRST_TALK);
        }
    }

    public int slots(int n) {
        if (n < 1 || n > SLOTS) {
            return RANGE;
        }
        int was = grid.slots;
        grid.slots = n;
        return was;
    }

    public int room(int r, int seats) {
        if (!isIndex(r, ROOMS) || seats < 0 || seats > MOST_EARS) {
            return RANGE;
        }
        int was = grid.seats[r];
        grid.seats[r] = seats;
        return was;
    }

    public int wish(int s, int o, int n) {
        if (!isIndex(s, SESSIONS) || !isIndex(o, SESSIONS) || s == o || n < 0 || n > MOST_WISHES) {
            return RANGE;
        }
        int was = grid.wishesOf(s, o);
        grid.setWishes(s, o, n);
        return was;
    }

    public int plan() {
        long cost = layer.leastCost(nothing);
        if (cost == Layer.NEVER) {
            return NONE;
        }
        layer.writeTo(planned);
        return (int) (cost / Layer.CLASH);
    }

    public int print() {
        if (!planned.isMade) {
            return STATE;
        }
        printed.copyOf(planned);
        return printed.sessionsLaid();
    }

    public int mend() {
        if (!printed.isMade) {
            return STATE;
        }
        long cost = layer.leastCost(printed);
        if (cost == Layer.NEVER) {
            return NONE;
        }
        layer.writeTo(planned);
        printed.copyOf(planned);
        return (int) (cost / Layer.MOVE);
    }

    public int laid(int s, int what) {
        if (!isIndex(s, SESSIONS)) {
            return RANGE;
        }
        switch (what) {
            case 0:
                return planned.slot[s];
            case 1:
                return planned.room[s];
            case 2:
                return printed.slot[s];
            case 3:
                return printed.room[s];
            default:
                return RANGE;
        }
    }

    public int over(int t, int minutes) {
        if (!isIndex(t, roster.size) || minutes < 0 || minutes > MOST_OVER) {
            return RANGE;
        }
        int was = roster.overrun[t];
        roster.overrun[t] = minutes;
        return was;
    }

    public int day(int s, int i, int what) {
        if (!isIndex(s, SESSIONS) || !isIndex(i, sessions.size[s]) || !isIndex(what, 2)) {
            return NONE;
        }
        return book[OVER] == 1 ? minuteWithPush(s, i, what == 1) : minuteWithCut(s, i, what == 1);
    }

    public int count(int what) {
        switch (what) {
            case 0:
                return roster.size;
            case 1:
                return marks.total;
            case 2:
                return sessions.openOnes();
            case 3:
                return grid.slots;
            case 4:
                return roster.waitingOnes();
            case 5:
                return planned.isMade ? grid.clashOf(planned) : NONE;
            case 6:
                return tape.length;
            default:
                return NONE;
        }
    }

    private static boolean isIndex(int i, int bound) {
        return i >= 0 && i < bound;
    }

    private static boolean canSpeak(int p, int q, int r) {
        if (!isIndex(p, PEOPLE)) {
            return false;
        }
        if (q == NONE) {
            return r == NONE;
        }
        if (!isIndex(q, PEOPLE) || q == p) {
            return false;
        }
        return r == NONE || isIndex(r, PEOPLE) && r != p && r != q;
    }

    private static long personBit(int p) {
        return isIndex(p, PEOPLE) ? 1L << p : 0L;
    }

    private static int commonDivisor(int a, int b) {
        int x = a;
        int y = b;
        // Euclid needs fewer than fifty steps for any two ints.
        for (int step = 0; step < 64 && y != 0; step++) {
            int rest = x % y;
            x = y;
            y = rest;
        }
        return x;
    }

    private int firstThatFills(int s) {
        boolean anyTheme = book[FILL] == 1 || sessions.size[s] == 0;
        int theme = sessions.themeOf(s);
        long elsewhere = peopleBeside(s);
        marks.weighAll();
        int first = NONE;
        for (int t = 0; t < roster.size; t++) {
            if (roster.waits(t) && (anyTheme || roster.theme[t] == theme) && (roster.speakers[t] & elsewhere) == 0
                    && (first == NONE || marks.isAhead(t, first))) {
                first = t;
            }
        }
        return first;
    }

    /** The people of all other sessions that the plan has in the slot of s. */
    private long peopleBeside(int s) {
        long people = 0;
        int slot = planned.slot[s];
        for (int o = 0; o < SESSIONS && slot != NONE; o++) {
            if (o != s && planned.slot[o] == slot) {
                people |= sessions.peopleOf(o);
            }
        }
        return people;
    }

    private int minuteWithPush(int s, int i, boolean atEnd) {
        int at = 0;
        for (int k = 0; k < i; k++) {
            int t = sessions.talkAt(s, k);
            at += roster.minutesOf(t) + roster.overrunOf(t) + book[GAP];
        }
        int last = sessions.talkAt(s, i);
        return atEnd ? at + roster.minutesOf(last) + roster.overrunOf(last) : at;
    }

    private int minuteWithCut(int s, int i, boolean atEnd) {
        int at = 0;
        int late = 0;
        for (int k = 0; k < i; k++) {
            int t = sessions.talkAt(s, k);
            int taken = Math.min(late, roster.minutesOf(t));
            late += roster.overrunOf(t) - taken;
            int gapTaken = Math.min(late, book[GAP]);
            late -= gapTaken;
            at += roster.minutesOf(t) - taken + roster.overrunOf(t) + book[GAP] - gapTaken;
        }
        int last = sessions.talkAt(s, i);
        int spoken = roster.minutesOf(last) - Math.min(late, roster.minutesOf(last));
        return atEnd ? at + spoken + roster.overrunOf(last) : at;
    }

    private static final class Tape {
        final int[] bytes = new int[TAPE_BYTES];
        int length;

        void append(int four) {
            for (int shift = 24; shift >= 0; shift -= 8) {
                if (isIndex(length, TAPE_BYTES)) {
                    bytes[length] = four >>> shift & 255;
                    length++;
                }
            }
        }

        /** The byte at a place, NONE behind the text. */
        int byteAt(int place) {
            return place >= 0 && place < length && place < TAPE_BYTES ? bytes[place] : NONE;
        }
    }

    /** Reads the tape as a text of rules, token by token, up to its first fault. */
    private static final class RuleReader {
        static final int SYNTAX = 1;
        static final int OUT_OF_BOUNDS = 2;
        static final int TWICE = 3;

        static final int TEXT_END = 0;
        static final int WORD = 1;
        static final int NUMBER = 2;
        static final int SEMICOLON = 3;
        static final int STRANGE = 4;

        static final int LINES = 8;
        static final int MOST_DIGITS = 3;

        final Tape text;
        final int[] values = new int[RULES];
        int faultKind;
        int faultPlace = NONE;
        private int at;
        private int token;
        private int start;
        private int told;

        RuleReader(Tape text) {
            this.text = text;
        }

        /** How many lines the text has, NONE with a fault. */
        int readText() {
            at = 0;
            told = 0;
            faultKind = 0;
            faultPlace = NONE;
            System.arraycopy(UNTOLD, 0, values, 0, RULES);
            // No line may be told twice, so there are no more than LINES.
            for (int lines = 0; lines <= LINES; lines++) {
                readToken();
                if (token == TEXT_END) {
                    return lines;
                }
                if (!readLine()) {
                    return NONE;
                }
            }
            return NONE;
        }

        private boolean readLine() {
            int line = lineOfToken();
            if (line == NONE) {
                return refuse(SYNTAX);
            }
            if ((told >> line & 1) == 1) {
                return refuse(TWICE);
            }
            told |= 1 << line;
            if (!readValues(line)) {
                return false;
            }
            readToken();
            return token == SEMICOLON || refuse(SYNTAX);
        }

        private int lineOfToken() {
            for (int line = 0; line < LINES; line++) {
                if (tokenIs(firstWord(line))) {
                    return line;
                }
            }
            return NONE;
        }

        private static String firstWord(int line) {
            switch (line) {
                case 0:
                    return "talks";
                case 1:
                    return "mixed";
                case 2:
                    return "chair";
                case 3:
                    return "theme";
                case 4:
                    return "room";
                case 5:
                    return "gap";
                case 6:
                    return "over";
                default:
                    return "fill";
            }
        }

        private boolean readValues(int line) {
            switch (line) {
                case 0:
                    return readNumber(FROM, 1, ROW) && readNumber(TO, values[FROM], ROW);
                case 1:
                    return readChoice(MIXED, "no", "yes");
                case 2:
                    return readChoice(CHAIR, "no", "yes");
                case 3:
                    return readNumber(THEME, 1, 8);
                case 4:
                    return readNumber(ROOM, 1, 200);
                case 5:
                    return readNumber(GAP, 0, 60);
                case 6:
                    return readChoice(OVER, "cut", "push");
                default:
                    return readChoice(FILL, "theme", "any");
            }
        }

        private boolean readNumber(int rule, int least, int most) {
            readToken();
            if (token != NUMBER) {
                return refuse(SYNTAX);
            }
            int number = 0;
            for (int i = start; i < at; i++) {
                number = number * 10 + text.byteAt(i) - '0';
            }
            values[rule] = number;
            return number >= least && number <= most || refuse(OUT_OF_BOUNDS);
        }

        private boolean readChoice(int rule, String forZero, String forOne) {
            readToken();
            if (tokenIs(forZero)) {
                values[rule] = 0;
                return true;
            }
            if (tokenIs(forOne)) {
                values[rule] = 1;
                return true;
            }
            return refuse(SYNTAX);
        }

        private boolean refuse(int kind) {
            faultKind = kind;
            faultPlace = start;
            return false;
        }

        private boolean tokenIs(String word) {
            if (token != WORD || at - start != word.length()) {
                return false;
            }
            for (int i = 0; i < word.length(); i++) {
                if (text.byteAt(start + i) != word.charAt(i)) {
                    return false;
                }
            }
            return true;
        }

        private void readToken() {
            while (at < text.length && isBlank(text.byteAt(at))) {
                at++;
            }
            start = at;
            if (at >= text.length) {
                token = TEXT_END;
                return;
            }
            int first = text.byteAt(at);
            if (isLetter(first)) {
                token = WORD;
                while (at < text.length && isLetter(text.byteAt(at))) {
                    at++;
                }
            } else if (isDigit(first)) {
                while (at < text.length && isDigit(text.byteAt(at))) {
                    at++;
                }
                token = at - start <= MOST_DIGITS ? NUMBER : STRANGE;
            } else {
                token = first == ';' ? SEMICOLON : STRANGE;
                at++;
            }
        }

        private static boolean isBlank(int sign) {
            return sign == 32 || sign == 10;
        }

        private static boolean isLetter(int sign) {
            return sign >= 'a' && sign <= 'z';
        }

        private static boolean isDigit(int sign) {
            return sign >= '0' && sign <= '9';
        }
    }

    /** The people and the talks, each talk with the session that it is in. */
    private static final class Roster {
        final int[] house = new int[PEOPLE];
        final int[] theme = new int[TALKS];
        final int[] minutes = new int[TALKS];
        final int[] ears = new int[TALKS];
        final int[] overrun = new int[TALKS];
        final int[] sessionOf = new int[TALKS];
        final long[] speakers = new long[TALKS];
        final boolean[] fallen = new boolean[TALKS];
        int size;

        int add(int itsTheme, int itsMinutes, int itsEars, long itsSpeakers) {
            if (!isIndex(size, TALKS)) {
                return FULL;
            }
            theme[size] = itsTheme;
            minutes[size] = itsMinutes;
            ears[size] = itsEars;
            speakers[size] = itsSpeakers;
            sessionOf[size] = NONE;
            size++;
            return size - 1;
        }

        /** Whoever speaks is of a speaker's house too, so houses alone need to be looked at. */
        boolean bars(int t, int reader) {
            for (int p = 0; p < PEOPLE; p++) {
                if ((speakers[t] >> p & 1) == 1 && house[p] == house[reader]) {
                    return true;
                }
            }
            return false;
        }

        boolean waits(int t) {
            return sessionOf[t] == NONE && !fallen[t];
        }

        int waitingOnes() {
            int ones = 0;
            for (int t = 0; t < size; t++) {
                if (waits(t)) {
                    ones++;
                }
            }
            return ones;
        }

        int minutesOf(int t) {
            return isIndex(t, TALKS) ? minutes[t] : 0;
        }

        int overrunOf(int t) {
            return isIndex(t, TALKS) ? overrun[t] : 0;
        }
    }

    /** All marks, and the scores as whole numbers of shares. */
    private static final class Marks {
        /** Every number of marks that a reader may have given, 1 to 8, divides it. */
        static final int SHARES = 840;

        final int[] given = new int[PEOPLE];
        final int[] got = new int[TALKS];
        int total;
        private final Roster roster;
        private final int[] sumOfReader = new int[PEOPLE];
        /** A mark plus one, so that 0 says that there is none. */
        private final int[] pointsAndOne = new int[PEOPLE * TALKS];
        private final int[] shares = new int[TALKS];

        Marks(Roster roster) {
            this.roster = roster;
        }

        boolean has(int reader, int t) {
            return pointsAndOne[reader * TALKS + t] > 0;
        }

        int add(int reader, int t, int points) {
            pointsAndOne[reader * TALKS + t] = points + 1;
            sumOfReader[reader] += points;
            given[reader]++;
            got[t]++;
            total++;
            return got[t];
        }

        /** The sum of a talk's marks, each less its reader's mean, in shares: its score is this over SHARES * got. */
        int sharesOf(int t) {
            int sum = 0;
            for (int reader = 0; reader < PEOPLE; reader++) {
                if (has(reader, t) && given[reader] > 0) {
                    int points = pointsAndOne[reader * TALKS + t] - 1;
                    sum += SHARES * points - sumOfReader[reader] * (SHARES / given[reader]);
                }
            }
            return sum;
        }

        /** Must go ahead of isAhead whenever marks have come since. */
        void weighAll() {
            for (int t = 0; t < roster.size; t++) {
                shares[t] = got[t] == 0 ? 0 : sharesOf(t);
            }
        }

        boolean isAhead(int t, int other) {
            if (got[t] == 0 || got[other] == 0) {
                return got[t] == got[other] ? t < other : got[t] > 0;
            }
            long mine = (long) shares[t] * got[other];
            long its = (long) shares[other] * got[t];
            return mine == its ? t < other : mine > its;
        }

        int talkOfRank(int rank) {
            weighAll();
            for (int t = 0; t < roster.size; t++) {
                if (talksAhead(t) == rank) {
                    return t;
                }
            }
            return NONE;
        }

        private int talksAhead(int t) {
            int ahead = 0;
            for (int other = 0; other < roster.size; other++) {
                if (other != t && isAhead(other, t)) {
                    ahead++;
                }
            }
            return ahead;
        }
    }

    /** The sessions, each with its chair and its row of talks. */
    private static final class Sessions {
        static final int TOO_FEW_OR_MANY = 1;
        static final int UNLIKE_THEMES = 2;
        static final int CHAIR_SPEAKS = 4;

        final boolean[] isOpen = new boolean[SESSIONS];
        final boolean[] isKeynote = new boolean[SESSIONS];
        final int[] chair = new int[SESSIONS];
        final int[] size = new int[SESSIONS];
        private final int[] row = new int[SESSIONS * ROW];
        private final Roster roster;

        Sessions(Roster roster) {
            this.roster = roster;
        }

        void begin(int s, int itsChair, boolean keynote) {
            isOpen[s] = true;
            isKeynote[s] = keynote;
            chair[s] = itsChair;
            size[s] = 0;
        }

        int close(int s) {
            int had = size[s];
            for (int i = 0; i < had; i++) {
                roster.sessionOf[row[s * ROW + i]] = NONE;
            }
            isOpen[s] = false;
            size[s] = 0;
            return had;
        }

        int append(int s, int t) {
            if (!isIndex(size[s], ROW)) {
                return FULL;
            }
            row[s * ROW + size[s]] = t;
            size[s]++;
            roster.sessionOf[t] = s;
            return size[s];
        }

        void remove(int s, int t) {
            int kept = 0;
            for (int i = 0; i < size[s]; i++) {
                int other = row[s * ROW + i];
                if (other != t) {
                    row[s * ROW + kept] = other;
                    kept++;
                }
            }
            size[s] = kept;
            roster.sessionOf[t] = NONE;
        }

        int openOnes() {
            int ones = 0;
            for (int s = 0; s < SESSIONS; s++) {
                if (isOpen[s]) {
                    ones++;
                }
            }
            return ones;
        }

        int talkAt(int s, int i) {
            return isIndex(i, size[s]) && i < ROW ? row[s * ROW + i] : NONE;
        }

        int themeOf(int s) {
            return size[s] == 0 ? NONE : roster.theme[row[s * ROW]];
        }

        int earsOf(int s) {
            int most = 0;
            for (int i = 0; i < size[s]; i++) {
                most = Math.max(most, roster.ears[row[s * ROW + i]]);
            }
            return most;
        }

        long speakersOf(int s) {
            long people = 0;
            for (int i = 0; i < size[s]; i++) {
                people |= roster.speakers[row[s * ROW + i]];
            }
            return people;
        }

        /** The chair and all speakers; nobody when the session isn't open. */
        long peopleOf(int s) {
            return isOpen[s] ? speakersOf(s) | personBit(chair[s]) : 0L;
        }

        int wrongOf(int s, int[] book) {
            int wrong = 0;
            if (size[s] < book[FROM] || size[s] > book[TO]) {
                wrong |= TOO_FEW_OR_MANY;
            }
            if (book[MIXED] == 0 && hasUnlikeThemes(s)) {
                wrong |= UNLIKE_THEMES;
            }
            if (book[CHAIR] == 0 && (speakersOf(s) & personBit(chair[s])) != 0) {
                wrong |= CHAIR_SPEAKS;
            }
            return wrong;
        }

        private boolean hasUnlikeThemes(int s) {
            for (int i = 1; i < size[s]; i++) {
                if (roster.theme[row[s * ROW + i]] != roster.theme[row[s * ROW]]) {
                    return true;
                }
            }
            return false;
        }
    }

    /** The slots, the seats of the rooms and the wishes of listeners. */
    private static final class Grid {
        int slots = 1;
        final int[] seats = new int[ROOMS];
        private final int[] wishes = new int[SESSIONS * SESSIONS];

        int wishesOf(int s, int o) {
            return wishes[s * SESSIONS + o];
        }

        void setWishes(int s, int o, int n) {
            wishes[s * SESSIONS + o] = n;
            wishes[o * SESSIONS + s] = n;
        }

        int clashOf(Laying laying) {
            int sum = 0;
            for (int s = 0; s < SESSIONS; s++) {
                for (int o = 0; o < s; o++) {
                    if (laying.slot[s] != NONE && laying.slot[s] == laying.slot[o]) {
                        sum += wishesOf(s, o);
                    }
                }
            }
            return sum;
        }
    }

    /** A slot and a room for each session, NONE for those that aren't in it. */
    private static final class Laying {
        boolean isMade;
        final int[] slot = new int[SESSIONS];
        final int[] room = new int[SESSIONS];

        Laying() {
            Arrays.fill(slot, NONE);
            Arrays.fill(room, NONE);
        }

        void renew() {
            isMade = true;
            Arrays.fill(slot, NONE);
            Arrays.fill(room, NONE);
        }

        void copyOf(Laying other) {
            isMade = other.isMade;
            System.arraycopy(other.slot, 0, slot, 0, SESSIONS);
            System.arraycopy(other.room, 0, room, 0, SESSIONS);
        }

        int sessionsLaid() {
            int laid = 0;
            for (int s = 0; s < SESSIONS; s++) {
                if (slot[s] != NONE) {
                    laid++;
                }
            }
            return laid;
        }
    }

    /**
     * Finds the least laying. Sets of sessions are bits of an int. What a set costs in a slot is ONE number (moves, then
     * clashes, then the row of slots as digits to the base 5) that adds up over the slots, so that slot by slot the least
     * cost of each set of sessions laid so far is exact, and no two rows of slots cost the same.
     */
    private static final class Layer {
        static final int SETS = 1 << SESSIONS;
        static final int ALL_ROOMS = (1 << ROOMS) - 1;
        /** 5 to the 8th: above every row of slots. */
        static final long CLASH = 390625L;
        /** 28 pairs with 9999 wishes each stay below 280000. */
        static final long MOVE = CLASH * 280000L;
        static final long NEVER = MOVE * 100L;

        private final Sessions sessions;
        private final Grid grid;
        private final int[] book;
        private final long[] people = new long[SESSIONS];
        private final int[] theme = new int[SESSIONS];
        private final int[] ears = new int[SESSIONS];
        /** Of each session the rooms that hold it. */
        private final int[] holding = new int[SESSIONS];
        /** Of each session those that share somebody with it, those of its theme, and those with as many ears or more. */
        private final int[] meeting = new int[SESSIONS];
        private final int[] alike = new int[SESSIONS];
        private final int[] notBelow = new int[SESSIONS];
        private int all;
        private int keynotes;
        /** Of each set its clashes as cost, NEVER when it can't be in one slot. */
        private final long[] together = new long[SETS];
        /** Of each set the cost of its row, were it in slot 1. */
        private final int[] digits = new int[SETS];
        /** Of each set what it costs in the slot that is looked at. */
        private final long[] here = new long[SETS];
        private final long[] least = new long[SETS * SLOTS];
        private final int[] chosen = new int[SETS * SLOTS];

        Layer(Sessions sessions, Grid grid, int[] book) {
            this.sessions = sessions;
            this.grid = grid;
            this.book = book;
            for (int set = 1; set < SETS; set++) {
                digits[set] = digits[set & (set - 1)] + digitOf(firstOf(set));
            }
        }

        /** The cost of the least laying, with moves counted from the one of before; NEVER when there is none. */
        long leastCost(Laying before) {
            lookAtSessions();
            lookAtSets();
            int last = lastSlot();
            priceSlot(0, before);
            for (int set = 0; set < SETS; set++) {
                least[set] = here[set];
                chosen[set] = set;
            }
            for (int slot = 1; slot <= last; slot++) {
                priceSlot(slot, before);
                for (int set = slot == last ? all : 0; set <= all; set++) {
                    if ((set & ~all) == 0) {
                        chooseIn(slot, set);
                    }
                }
            }
            return least[last * SETS + all];
        }

        /** Writes the laying that leastCost found; there must have been one. */
        void writeTo(Laying laying) {
            laying.renew();
            int left = all;
            for (int slot = lastSlot(); slot >= 0; slot--) {
                int set = chosen[slot * SETS + left];
                for (int s = 0; s < SESSIONS; s++) {
                    if (has(set, s)) {
                        laying.slot[s] = slot;
                    }
                }
                giveRooms(set, laying);
                left &= ~set;
            }
        }

        private int lastSlot() {
            return Math.max(0, Math.min(grid.slots, SLOTS) - 1);
        }

        private static boolean has(int set, int member) {
            return (set >> member & 1) == 1;
        }

        private static int firstOf(int set) {
            return Integer.bitCount((set & -set) - 1);
        }

        /** The session's place in a row of slots to the base 5, the first session's the highest. */
        private static int digitOf(int s) {
            int digit = 1;
            for (int behind = s + 1; behind < SESSIONS; behind++) {
                digit *= SLOTS;
            }
            return digit;
        }

        private void lookAtSessions() {
            all = 0;
            keynotes = 0;
            for (int s = 0; s < SESSIONS; s++) {
                if (sessions.isOpen[s]) {
                    all |= 1 << s;
                    keynotes |= sessions.isKeynote[s] ? 1 << s : 0;
                    people[s] = sessions.peopleOf(s);
                    theme[s] = sessions.themeOf(s);
                    ears[s] = sessions.earsOf(s);
                    holding[s] = roomsFor(ears[s]);
                }
            }
            for (int s = 0; s < SESSIONS; s++) {
                if (has(all, s)) {
                    compareWithAll(s);
                }
            }
        }

        private void compareWithAll(int s) {
            meeting[s] = 0;
            alike[s] = 0;
            notBelow[s] = 0;
            for (int o = 0; o < SESSIONS; o++) {
                if (has(all, o)) {
                    meeting[s] |= (people[s] & people[o]) != 0 ? 1 << o : 0;
                    alike[s] |= theme[s] != NONE && theme[s] == theme[o] ? 1 << o : 0;
                    notBelow[s] |= ears[o] >= ears[s] ? 1 << o : 0;
                }
            }
        }

        private int roomsFor(int itsEars) {
            int rooms = 0;
            for (int r = 0; r < ROOMS; r++) {
                if (100 * itsEars <= book[ROOM] * grid.seats[r]) {
                    rooms |= 1 << r;
                }
            }
            return rooms;
        }

        private void lookAtSets() {
            together[0] = 0;
            for (int set = 1; set < SETS; set++) {
                int first = firstOf(set);
                int rest = set & (set - 1);
                boolean can = (set & ~all) == 0 && together[rest] < NEVER && fits(first, rest);
                together[set] = can ? together[rest] + clashWith(first, rest) * CLASH : NEVER;
            }
        }

        private int clashWith(int s, int set) {
            int sum = 0;
            for (int o = 0; o < SESSIONS; o++) {
                if (has(set, o)) {
                    sum += grid.wishesOf(s, o);
                }
            }
            return sum;
        }

        /** Whether a session may come to others in their slot that may be in one themselves. */
        private boolean fits(int s, int others) {
            int set = others | 1 << s;
            if (others != 0 && (set & keynotes) != 0) {
                return false;
            }
            return (meeting[s] & others) == 0 && Integer.bitCount(alike[s] & set) <= book[THEME]
                    && roomsHold(set, ALL_ROOMS);
        }

        /** What holds a session holds every lesser one, so it is enough to count, for each, those that need as much. */
        private boolean roomsHold(int set, int rooms) {
            for (int s = 0; s < SESSIONS; s++) {
                if (has(set, s) && Integer.bitCount(set & notBelow[s]) > Integer.bitCount(rooms & holding[s])) {
                    return false;
                }
            }
            return true;
        }

        private void priceSlot(int slot, Laying before) {
            int moving = 0;
            for (int s = 0; s < SESSIONS; s++) {
                if (before.slot[s] != NONE && before.slot[s] != slot) {
                    moving |= 1 << s;
                }
            }
            for (int set = 0; set < SETS; set++) {
                here[set] = together[set] == NEVER ? NEVER
                        : together[set] + (long) slot * digits[set] + MOVE * Integer.bitCount(set & moving);
            }
        }

        /** Of all ways to lay a set in the slots up to this one: the least, and which part of it is in this one. */
        private void chooseIn(int slot, int set) {
            int ahead = (slot - 1) * SETS;
            long best = least[ahead + set];
            int part = 0;
            for (int in = set; in > 0; in = (in - 1) & set) {
                if (here[in] < NEVER && least[ahead + (set ^ in)] < NEVER) {
                    long cost = here[in] + least[ahead + (set ^ in)];
                    if (cost < best) {
                        best = cost;
                        part = in;
                    }
                }
            }
            least[slot * SETS + set] = best;
            chosen[slot * SETS + set] = part;
        }

        private void giveRooms(int set, Laying laying) {
            int free = ALL_ROOMS;
            int left = set;
            for (int s = 0; s < SESSIONS; s++) {
                if (has(set, s)) {
                    left &= ~(1 << s);
                    int r = leastRoom(s, left, free);
                    laying.room[s] = r;
                    if (r != NONE) {
                        free &= ~(1 << r);
                    }
                }
            }
        }

        /** The first free room that holds the session and leaves rooms for those that come behind it. */
        private int leastRoom(int s, int left, int free) {
            for (int r = 0; r < ROOMS; r++) {
                if (has(free & holding[s], r) && roomsHold(left, free & ~(1 << r))) {
                    return r;
                }
            }
            return NONE;
        }
    }
}
