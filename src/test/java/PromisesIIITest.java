import java.util.function.Consumer;

/** Promises 18 to 27, sentence by sentence: the grid, its plan, printed and mended, days and counts. */
public final class PromisesIIITest {
    private static final int[] ODD = {-1, -2, -3, -100, Integer.MIN_VALUE, Integer.MAX_VALUE};

    public static void main(String[] args) {
        slots();
        room();
        wish();
        plan();
        planRefused();
        print();
        mend();
        mendRefused();
        laid();
        over();
        day();
        count();
        Check.finish();
    }

    private static void slots() {
        Check.sentence("The GRID has so many SLOTS: how many it had; RANGE.");
        TalkGrid x = new TalkGrid();
        int was = 1;
        for (int n : new int[] {5, 1, 4, 4, 2, 3}) {
            Check.due("slots(" + n + ")", x.slots(n), was);
            Check.due("count(3)", x.count(3), n);
            was = n;
        }
        for (int odd : ODD) {
            Seen.refused("slots(" + odd + ")", Busy::make, y -> y.slots(odd), -2);
        }
        Seen.refused("slots(0)", Busy::make, y -> y.slots(0), -2);
        Seen.refused("slots(6)", Busy::make, y -> y.slots(6), -2);
    }

    private static void room() {
        Check.sentence("A ROOM has so many seats: how many it had; RANGE.");
        TalkGrid x = new TalkGrid();
        int was = 0;
        for (int seats : new int[] {999, 0, 1, 1, 500}) {
            Check.due("room(5, " + seats + ")", x.room(5, seats), was);
            was = seats;
        }
        Check.due("no other one", x.room(4, 0), 0);
        for (int odd : ODD) {
            Seen.refused("room(" + odd + ", 7)", Busy::make, y -> y.room(odd, 7), -2);
            Seen.refused("room(1, " + odd + ")", Busy::make, y -> y.room(1, odd), -2);
        }
        Seen.refused("room(6, 7)", Busy::make, y -> y.room(6, 7), -2);
        Seen.refused("room(1, 1000)", Busy::make, y -> y.room(1, 1000), -2);
    }

    private static void wish() {
        Check.sentence("WISHES of two SESSIONS (unlike) are n (0 .. 9999): what they were (0); RANGE.");
        TalkGrid x = new TalkGrid();
        Check.due("at first, of sessions that aren't open", x.wish(0, 7, 9999), 0);
        Check.due("the other way round", x.wish(7, 0, 1), 9999);
        Check.due("again", x.wish(0, 7, 0), 1);
        Check.due("again", x.wish(7, 0, 0), 0);
        x.wish(3, 4, 8);
        x.open(3, 1, false);
        Check.due("opening leaves them", x.wish(4, 3, 9), 8);
        x.shut(3);
        Check.due("shutting leaves them", x.wish(4, 3, 9), 9);
        for (int odd : ODD) {
            Seen.refused("wish(" + odd + ", 1, 7)", Busy::make, y -> y.wish(odd, 1, 7), -2);
            Seen.refused("wish(1, " + odd + ", 7)", Busy::make, y -> y.wish(1, odd, 7), -2);
            Seen.refused("wish(1, 0, " + odd + ")", Busy::make, y -> y.wish(1, 0, odd), -2);
        }
        Seen.refused("wish(8, 1, 7)", Busy::make, y -> y.wish(8, 1, 7), -2);
        Seen.refused("wish(1, 8, 7)", Busy::make, y -> y.wish(1, 8, 7), -2);
        Seen.refused("wish(8, 8, 7)", Busy::make, y -> y.wish(8, 8, 7), -2);
        Seen.refused("wish(1, 0, 10000)", Busy::make, y -> y.wish(1, 0, 10000), -2);
        for (int s = 0; s < 8; s++) {
            int alike = s;
            Seen.refused("wish of " + s + " with itself", Busy::make, y -> y.wish(alike, alike, 7), -2);
        }
    }

    private static void laidIs(TalkGrid x, int what, int... want) {
        for (int s = 0; s < 8; s++) {
            Check.due("laid(" + s + ", " + what + ")", x.laid(s, what), s < want.length ? want[s] : -1);
        }
    }

    private static void plan() {
        Check.sentence("The PLAN is made: the sum of WISHES that clash;");
        TalkGrid x = new TalkGrid();
        Check.due("of no session", x.plan(), 0);
        Check.due("it is a plan", x.count(5), 0);
        for (int s = 0; s < 6; s++) {
            x.open(s, s, false);
            for (int o = 0; o < s; o++) {
                x.wish(s, o, 9999);
            }
            Check.due("one slot, sessions: " + (s + 1), x.plan(), s * (s + 1) / 2 * 9999);
        }
        x.slots(5);
        Check.due("five slots", x.plan(), 9999);
        laidIs(x, 0, 0, 0, 1, 2, 3, 4);
        laidIs(x, 1, 0, 1, 0, 0, 0, 0);
        laidIs(x, 2);
        TalkGrid y = new TalkGrid();
        Busy.make(y);
        Check.due("plan()", y.plan(), 30);
        laidIs(y, 0, 0, 1, 2, 0);
        laidIs(y, 2, 0, 0, 1, 2, 3);
        y.slots(4);
        Check.due("plan()", y.plan(), 0);
        laidIs(y, 0, 0, 1, 2, 3);
    }

    private static void planRefused() {
        Check.sentence("NONE: there is no LAYING (the PLAN of before stays).");
        Seen.refused("no slot left for all", after(x -> x.slots(1)), TalkGrid::plan, -1);
        Seen.refused("no room that holds", after(PromisesIIITest::smallRooms), TalkGrid::plan, -1);
        Seen.refused("one person in four", after(x -> {
            for (int s = 3; s < 7; s++) {
                x.shut(s);
                x.open(s, 5, false);
            }
        }), TalkGrid::plan, -1);
        TalkGrid x = new TalkGrid();
        x.open(0, 1, true);
        x.open(1, 2, true);
        Check.due("none, and none before", x.plan(), -1);
        Check.due("there is no plan", x.count(5), -1);
        Check.due("there is no plan", x.print(), -4);
        laidIs(x, 0);
        x.slots(2);
        Check.due("plan()", x.plan(), 0);
        x.slots(1);
        Check.due("none now", x.plan(), -1);
        Check.due("the plan of before", x.count(5), 0);
        laidIs(x, 0, 0, 1);
        Check.due("the plan of before", x.print(), 2);
    }

    private static Consumer<TalkGrid> after(Consumer<TalkGrid> more) {
        return ((Consumer<TalkGrid>) Busy::make).andThen(more);
    }

    /** 35 ears need 24 seats. */
    private static void smallRooms(TalkGrid x) {
        x.room(1, 23);
        x.room(4, 23);
    }

    private static void print() {
        Check.sentence("The PLAN is PRINTED: how many SESSIONS it has;");
        TalkGrid x = new TalkGrid();
        x.slots(2);
        for (int n = 0; n <= 8; n++) {
            Check.due("plan()", x.plan(), 0);
            Check.due("print of " + n, x.print(), n);
            Check.due("print again", x.print(), n);
            for (int s = 0; s < 8; s++) {
                Check.due("slot as planned", x.laid(s, 2), x.laid(s, 0));
                Check.due("room as planned", x.laid(s, 3), x.laid(s, 1));
            }
            if (n < 8) {
                x.open(7 - n, n, false);
                Check.due("one that the plan hasn't", x.print(), n);
            }
        }
        TalkGrid y = new TalkGrid();
        Busy.make(y);
        Check.due("print()", y.print(), 4);
        laidIs(y, 2, 0, 1, 2, 0);
        laidIs(y, 3, 1, 1, 1, 0);
        Check.sentence("STATE: there is none.");
        Seen.refused("print of a new object", z -> { }, TalkGrid::print, -4);
        Seen.refused("print behind a plan that failed", z -> {
            z.open(0, 1, true);
            z.open(1, 2, true);
            z.plan();
        }, TalkGrid::print, -4);
    }

    private static void mend() {
        Check.sentence("The PRINTED one is MENDED: how many are moved;");
        TalkGrid x = new TalkGrid();
        Busy.make(x);
        Check.due("3 moves not, 4 is shut", x.mend(), 0);
        laidIs(x, 0, 0, 0, 1, 2);
        laidIs(x, 1, 1, 4, 1, 0);
        laidIs(x, 2, 0, 0, 1, 2);
        laidIs(x, 3, 1, 4, 1, 0);
        TalkGrid y = new TalkGrid();
        y.slots(5);
        for (int s = 0; s < 5; s++) {
            y.open(s, s, false);
            for (int o = 0; o < s; o++) {
                y.wish(s, o, 1);
            }
        }
        y.plan();
        y.print();
        // 4 comes to 0, 3 to 1, 2 to 0 and 4, then 1 and 3 to all others.
        int[] moved = {0, 2, 1, 1, 1};
        for (int slots = 4; slots >= 1; slots--) {
            y.slots(slots);
            Check.due("the slots that are left: " + slots, y.mend(), moved[slots]);
        }
        laidIs(y, 2, 0, 0, 0, 0, 0);
        y.slots(5);
        for (int s = 0; s < 5; s++) {
            y.shut(s);
            y.open(s, 9, false);
        }
        Check.due("one chair for all: four move", y.mend(), 4);
        laidIs(y, 2, 0, 1, 2, 3, 4);
        Check.due("nothing to mend", y.mend(), 0);
        laidIs(y, 2, 0, 1, 2, 3, 4);
    }

    private static void mendRefused() {
        Check.sentence("NONE: there is no LAYING (all stays);");
        Seen.refused("no slot left for all", after(x -> x.slots(1)), TalkGrid::mend, -1);
        Seen.refused("no room that holds", after(PromisesIIITest::smallRooms), TalkGrid::mend, -1);
        Check.sentence("STATE: none was PRINTED.");
        Seen.refused("mend of a new object", x -> { }, TalkGrid::mend, -4);
        Seen.refused("mend of a plan that isn't printed", x -> {
            x.open(0, 1, false);
            x.plan();
        }, TalkGrid::mend, -4);
        Seen.refused("ahead of no laying", x -> {
            x.open(0, 1, true);
            x.open(1, 2, true);
        }, TalkGrid::mend, -4);
        TalkGrid x = new TalkGrid();
        x.plan();
        x.print();
        Check.due("none is printed, but a grid of none", x.mend(), 0);
    }

    private static void laid() {
        Check.sentence("Of SESSION s, what 0: SLOT, 1: ROOM of the PLAN, 2: SLOT, 3: ROOM as PRINTED (each NONE: it isn't in it).");
        TalkGrid x = new TalkGrid();
        Busy.make(x);
        laidIs(x, 0, 0, 1, 2, 0);
        laidIs(x, 1, 1, 1, 1, 0);
        laidIs(x, 2, 0, 0, 1, 2, 3);
        laidIs(x, 3, 1, 4, 1, 0, 0);
        x.open(7, 20, false);
        Check.due("open, and in none", x.laid(7, 0), -1);
        Check.due("open, and in none", x.laid(7, 3), -1);
        Check.sentence("RANGE: no such SESSION, what.");
        for (int odd : ODD) {
            Check.due("laid(" + odd + ", 0)", x.laid(odd, 0), -2);
            Check.due("laid(0, " + odd + ")", x.laid(0, odd), -2);
            Check.due("laid(7, " + odd + ")", x.laid(7, odd), -2);
        }
        for (int what = 0; what < 4; what++) {
            Check.due("laid(8, " + what + ")", x.laid(8, what), -2);
            Check.due("of a new object", new TalkGrid().laid(7, what), -1);
        }
        Check.due("laid(0, 4)", x.laid(0, 4), -2);
        Check.due("laid(5, 4)", x.laid(5, 4), -2);
        Seen.same("laid asks alone", Busy::make, y -> {
            Busy.make(y);
            y.laid(0, 0);
            y.laid(9, 9);
        });
    }

    private static void over() {
        Check.sentence("A TALK ran over by so many minutes (0 .. 60): by how many it was told ahead (0); RANGE.");
        TalkGrid x = new TalkGrid();
        x.talk(0, 10, 10, 0, -1, -1);
        x.talk(0, 10, 10, 1, -1, -1);
        int was = 0;
        for (int minutes : new int[] {60, 0, 1, 1, 59}) {
            Check.due("over(1, " + minutes + ")", x.over(1, minutes), was);
            was = minutes;
        }
        Check.due("no other one", x.over(0, 0), 0);
        x.open(0, 30, false);
        x.put(0, 1);
        Check.due("put leaves it", x.over(1, 7), 59);
        x.shut(0);
        Check.due("shut leaves it", x.over(1, 8), 7);
        x.fallOut(1);
        Check.due("of one that fell out", x.over(1, 9), 8);
        for (int odd : ODD) {
            Seen.refused("over(" + odd + ", 7)", Busy::make, y -> y.over(odd, 7), -2);
            Seen.refused("over(1, " + odd + ")", Busy::make, y -> y.over(1, odd), -2);
        }
        Seen.refused("over(10, 7)", Busy::make, y -> y.over(10, 7), -2);
        Seen.refused("over(40, 7)", Busy::make, y -> y.over(40, 7), -2);
        Seen.refused("over(1, 61)", Busy::make, y -> y.over(1, 61), -2);
        Check.due("no talk at all", new TalkGrid().over(0, 0), -2);
    }

    private static void day() {
        Check.sentence("Of the i-th TALK of a SESSION on its DAY, what 0: the minute at which it begins, 1: at which it ends "
                + "(run over and all).");
        TalkGrid x = new TalkGrid();
        Busy.make(x);
        // Cut, gap 7: talk 0 has 10 minutes and 30 over; the gap and all 11 minutes of talk 1 are gone.
        Check.due("day(0, 0, 0)", x.day(0, 0, 0), 0);
        Check.due("day(0, 0, 1)", x.day(0, 0, 1), 40);
        Check.due("day(0, 1, 0)", x.day(0, 1, 0), 40);
        Check.due("day(0, 1, 1)", x.day(0, 1, 1), 40);
        Check.due("day(1, 0, 0)", x.day(1, 0, 0), 0);
        Check.due("day(1, 0, 1)", x.day(1, 0, 1), 20);
        x.put(0, 5);
        Check.due("7 + 11 + 7 of 30 are gone, 5 of its minutes go", x.day(0, 2, 0), 40);
        Check.due("day(0, 2, 1)", x.day(0, 2, 1), 50);
        Check.sentence("NONE when there is none such.");
        for (int what = 0; what < 2; what++) {
            Check.due("behind the last", x.day(0, 3, what), -1);
            Check.due("behind the row", x.day(0, 6, what), -1);
            Check.due("without talks", x.day(3, 0, what), -1);
            Check.due("shut", x.day(4, 0, what), -1);
            Check.due("never open", x.day(7, 0, what), -1);
            Check.due("no such session", x.day(8, 0, what), -1);
            for (int odd : ODD) {
                Check.due("no such session", x.day(odd, 0, what), -1);
                Check.due("no such talk", x.day(0, odd, what), -1);
            }
        }
        for (int odd : ODD) {
            Check.due("no such what", x.day(0, 0, odd), -1);
        }
        Check.due("no such what", x.day(0, 0, 2), -1);
        x.shut(0);
        Check.due("shut now", x.day(0, 0, 0), -1);
        Seen.same("day asks alone", Busy::make, y -> {
            Busy.make(y);
            y.day(0, 1, 1);
            y.day(9, 9, 9);
        });
    }

    private static void count() {
        Check.sentence("What 0: TALKS, 1: MARKS, 2: SESSIONS open, 3: SLOTS, 4: TALKS that WAIT, 5: the sum of WISHES that clash in "
                + "the PLAN now (NONE without), 6: bytes of THE TAPE.");
        TalkGrid x = new TalkGrid();
        Busy.make(x);
        int[] want = {10, 10, 4, 3, 5, 30, 20};
        for (int what = 0; what < want.length; what++) {
            Check.due("count(" + what + ")", x.count(what), want[what]);
        }
        x.wish(0, 3, 9999);
        Check.due("as the wishes are now", x.count(5), 9999);
        x.wish(0, 2, 77);
        Check.due("of two that aren't in one slot", x.count(5), 9999);
        x.wish(0, 3, 0);
        Check.due("as the wishes are now", x.count(5), 0);
        x.wish(6, 7, 500);
        x.open(6, 21, false);
        Check.due("of two that the plan hasn't", x.count(5), 0);
        x.shut(6);
        Check.due("none planned", new TalkGrid().count(5), -1);
        Check.due("all talks wait", x.shut(0) + x.count(4), 2 + 7);
        Check.due("one fewer is open", x.count(2), 3);
        Check.sentence("NONE for others.");
        for (int odd : ODD) {
            Check.due("count(" + odd + ")", x.count(odd), -1);
        }
        Check.due("count(7)", x.count(7), -1);
        Check.due("count(8)", x.count(8), -1);
        Seen.same("count asks alone", Busy::make, y -> {
            Busy.make(y);
            for (int what = -1; what < 8; what++) {
                y.count(what);
            }
        });
    }
}
