/** Promises 18 to 24: slots, rooms, wishes, the plan, the printed one and how it is mended. */
public final class GridTest {
    public static void main(String[] args) {
        setting();
        peopleAreNotInTwo();
        roomsHold();
        themes();
        keynotes();
        leastClash();
        leastRows();
        planStays();
        printing();
        mending();
        shutSessionsStayLaid();
        telling();
        Check.finish();
    }

    private static TalkGrid withSessions(int n, int slots, int rooms) {
        TalkGrid x = new TalkGrid();
        x.slots(slots);
        for (int r = 0; r < rooms; r++) {
            x.room(r, 100);
        }
        for (int s = 0; s < n; s++) {
            x.talk(s, 10, 10, s, -1, -1);
            x.open(s, 30 + s, false);
            x.put(s, s);
        }
        return x;
    }

    private static void laid(TalkGrid x, int what, int... want) {
        for (int s = 0; s < want.length; s++) {
            Check.due("laid(" + s + ", " + what + ")", x.laid(s, what), want[s]);
        }
    }

    private static void setting() {
        TalkGrid x = new TalkGrid();
        Check.due("slots(5)", x.slots(5), 1);
        Check.due("slots(6)", x.slots(6), -2);
        Check.due("slots(0)", x.slots(0), -2);
        Check.due("slots(1)", x.slots(1), 5);
        Check.due("count(3)", x.count(3), 1);
        Check.due("room(0, 999)", x.room(0, 999), 0);
        Check.due("room(5, 1)", x.room(5, 1), 0);
        Check.due("room(6, 1)", x.room(6, 1), -2);
        Check.due("room(-1, 1)", x.room(-1, 1), -2);
        Check.due("room(0, 1000)", x.room(0, 1000), -2);
        Check.due("room(0, -1)", x.room(0, -1), -2);
        Check.due("room(0, 0)", x.room(0, 0), 999);
        Check.due("wish(0, 7, 9999)", x.wish(0, 7, 9999), 0);
        Check.due("wish(7, 0, 5)", x.wish(7, 0, 5), 9999);
        Check.due("wish(0, 7, 0)", x.wish(0, 7, 0), 5);
        Check.due("wish(0, 8, 0)", x.wish(0, 8, 0), -2);
        Check.due("wish(8, 0, 0)", x.wish(8, 0, 0), -2);
        Check.due("wish(-1, 0, 0)", x.wish(-1, 0, 0), -2);
        Check.due("wish(0, -1, 0)", x.wish(0, -1, 0), -2);
        Check.due("wish(3, 3, 0)", x.wish(3, 3, 0), -2);
        Check.due("wish(0, 1, -1)", x.wish(0, 1, -1), -2);
        Check.due("wish(0, 1, 10000)", x.wish(0, 1, 10000), -2);
        Check.due("wish(0, 1, 0)", x.wish(0, 1, 0), 0);
    }

    private static void peopleAreNotInTwo() {
        TalkGrid x = withSessions(2, 1, 2);
        Check.due("side by side", x.plan(), 0);
        laid(x, 0, 0, 0, -1);
        x.talk(0, 10, 10, 31, -1, -1);
        x.put(0, 2);
        Check.due("a chair speaks in the other", x.plan(), -1);
        x.slots(2);
        Check.due("in two slots", x.plan(), 0);
        laid(x, 0, 0, 1, -1);
        x.fallOut(2);
        x.talk(0, 10, 10, 9, 8, 1);
        x.put(0, 3);
        x.slots(1);
        Check.due("a third speaker speaks in the other", x.plan(), -1);
        TalkGrid y = new TalkGrid();
        y.open(0, 5, false);
        y.open(1, 5, false);
        Check.due("one chair", y.plan(), -1);
    }

    private static void roomsHold() {
        TalkGrid x = new TalkGrid();
        x.talk(0, 10, 80, 0, -1, -1);
        x.open(0, 30, false);
        Check.due("no ears need no seats", x.plan(), 0);
        laid(x, 1, 0);
        x.put(0, 0);
        x.room(2, 79);
        Check.due("too small", x.plan(), -1);
        x.room(2, 80);
        Check.due("just so", x.plan(), 0);
        laid(x, 1, 2);
        Check.rules(x, "room 80;");
        Check.due("80 hundredths of 80", x.plan(), -1);
        x.room(4, 100);
        Check.due("80 hundredths of 100", x.plan(), 0);
        laid(x, 1, 4);
        Check.rules(x, "room 200;");
        x.room(1, 40);
        Check.due("200 hundredths of 40", x.plan(), 0);
        laid(x, 1, 1);
        x.room(1, 39);
        Check.due("200 hundredths of 39", x.plan(), 0);
        laid(x, 1, 2);
        TalkGrid y = withSessions(7, 1, 6);
        Check.due("seven in six rooms", y.plan(), -1);
        y.shut(6);
        Check.due("six in six rooms", y.plan(), 0);
        laid(y, 1, 0, 1, 2, 3, 4, 5, -1);
    }

    private static void themes() {
        TalkGrid x = new TalkGrid();
        for (int s = 0; s < 4; s++) {
            x.talk(3, 10, 10, s, -1, -1);
            x.open(s, 30 + s, false);
            x.put(s, s);
            x.room(s, 100);
        }
        Check.due("eight of a theme may be", x.plan(), 0);
        Check.rules(x, "theme 1;");
        Check.due("one of a theme", x.plan(), -1);
        x.slots(4);
        Check.due("in four slots", x.plan(), 0);
        laid(x, 0, 0, 1, 2, 3);
        Check.rules(x, "theme 2;");
        Check.due("two of a theme", x.plan(), 0);
        laid(x, 0, 0, 0, 1, 1);
        x.talk(5, 10, 10, 9, -1, -1);
        x.fallOut(0);
        x.put(0, 4);
        x.put(0, 0);
        Check.due("another theme", x.plan(), 0);
        laid(x, 0, 0, 0, 0, 1);
        TalkGrid y = new TalkGrid();
        Check.rules(y, "theme 1;");
        y.open(0, 1, false);
        y.open(1, 2, false);
        Check.due("without talks of no theme", y.plan(), 0);
        laid(y, 0, 0, 0);
    }

    private static void keynotes() {
        TalkGrid x = withSessions(3, 2, 3);
        x.shut(1);
        x.open(1, 31, true);
        Check.due("alone", x.plan(), 0);
        laid(x, 0, 0, 1, 0);
        x.shut(0);
        x.open(0, 30, true);
        Check.due("two keynotes", x.plan(), -1);
        x.slots(3);
        Check.due("two keynotes, three slots", x.plan(), 0);
        laid(x, 0, 0, 1, 2);
    }

    private static void leastClash() {
        TalkGrid x = withSessions(4, 2, 4);
        x.wish(0, 1, 9);
        x.wish(2, 3, 9);
        x.wish(0, 2, 4);
        x.wish(1, 3, 4);
        x.wish(0, 3, 3);
        x.wish(1, 2, 5);
        Check.due("0 3 | 1 2 or 0 2 | 1 3", x.plan(), 8);
        laid(x, 0, 0, 1, 0, 1);
        Check.due("count(5)", x.count(5), 8);
        x.wish(0, 2, 5);
        Check.due("count(5) as wished now", x.count(5), 9);
        Check.due("0 3 | 1 2", x.plan(), 8);
        laid(x, 0, 0, 1, 1, 0);
        TalkGrid y = withSessions(8, 5, 6);
        for (int s = 0; s < 8; s++) {
            for (int o = 0; o < s; o++) {
                y.wish(s, o, 9999);
            }
        }
        Check.due("three pairs", y.plan(), 3 * 9999);
        laid(y, 0, 0, 0, 1, 1, 2, 2, 3, 4);
        y.slots(2);
        Check.due("four and four", y.plan(), 12 * 9999);
        laid(y, 0, 0, 0, 0, 0, 1, 1, 1, 1);
    }

    private static void leastRows() {
        TalkGrid x = withSessions(3, 3, 3);
        x.wish(0, 2, 1);
        Check.due("least row of slots", x.plan(), 0);
        laid(x, 0, 0, 0, 1);
        laid(x, 1, 0, 1, 0);
        x.room(0, 9);
        Check.due("rooms of the slots that are least", x.plan(), 0);
        laid(x, 0, 0, 0, 1);
        laid(x, 1, 1, 2, 1);
        TalkGrid y = new TalkGrid();
        int[] ears = {10, 50, 30};
        int[] seats = {50, 10, 0, 40, 60};
        for (int r = 0; r < seats.length; r++) {
            y.room(r, seats[r]);
        }
        for (int s = 0; s < 3; s++) {
            y.talk(0, 10, ears[s], s, -1, -1);
            y.open(s, 30 + s, false);
            y.put(s, s);
        }
        Check.due("rooms by session", y.plan(), 0);
        laid(y, 1, 0, 4, 3);
        y.room(3, 9);
        Check.due("the first leaves what the others need", y.plan(), 0);
        laid(y, 1, 1, 0, 4);
    }

    private static void planStays() {
        TalkGrid x = withSessions(2, 1, 2);
        x.plan();
        x.room(1, 0);
        Check.due("no laying", x.plan(), -1);
        laid(x, 1, 0, 1);
        x.open(2, 5, false);
        laid(x, 0, 0, 0, -1);
        Check.due("count(5)", x.count(5), 0);
    }

    private static void printing() {
        TalkGrid x = withSessions(3, 1, 3);
        Check.due("no plan", x.print(), -4);
        x.plan();
        laid(x, 2, -1, -1, -1);
        Check.due("print()", x.print(), 3);
        laid(x, 2, 0, 0, 0, -1);
        laid(x, 3, 0, 1, 2, -1);
        x.slots(3);
        x.wish(0, 1, 1);
        x.plan();
        laid(x, 0, 0, 1, 0);
        laid(x, 2, 0, 0, 0);
        Check.due("print()", x.print(), 3);
        laid(x, 2, 0, 1, 0);
        TalkGrid y = new TalkGrid();
        Check.due("plan of none", y.plan(), 0);
        Check.due("count(5)", y.count(5), 0);
        Check.due("print of none", y.print(), 0);
        Check.due("mend of none", y.mend(), 0);
    }

    private static void mending() {
        TalkGrid x = withSessions(4, 2, 2);
        Check.due("none printed", x.mend(), -4);
        x.plan();
        Check.due("none printed", x.mend(), -4);
        x.print();
        laid(x, 2, 0, 0, 1, 1);
        x.wish(0, 1, 50);
        Check.due("wishes move nobody", x.mend(), 0);
        laid(x, 2, 0, 0, 1, 1);
        Check.due("count(5)", x.count(5), 50);
        x.talk(0, 10, 10, 31, -1, -1);
        x.put(0, 4);
        Check.due("one must go, so one must come", x.mend(), 2);
        laid(x, 2, 0, 1, 0, 1);
        laid(x, 0, 0, 1, 0, 1);
        x.slots(3);
        x.open(4, 34, false);
        x.wish(4, 0, 3);
        Check.due("a new one isn't moved", x.mend(), 0);
        laid(x, 2, 0, 1, 0, 1, 1);
        x.room(0, 9);
        x.room(1, 9);
        Check.due("no laying: all stays", x.mend(), -1);
        laid(x, 2, 0, 1, 0, 1, 1);
        x.room(0, 10);
        x.shut(1);
        x.shut(3);
        Check.due("one of two moves; then the least wishes", x.mend(), 1);
        laid(x, 2, 0, -1, 1, -1, 1);
        laid(x, 3, 0, -1, 0, -1, 1);
        x.slots(1);
        x.shut(0);
        x.room(1, 100);
        Check.due("slots that are no more", x.mend(), 2);
        laid(x, 2, -1, -1, 0, -1, 0);
        x.shut(4);
        x.slots(2);
        x.open(4, 32, false);
        Check.due("shut and open again is printed still", x.mend(), 1);
        laid(x, 2, -1, -1, 0, -1, 1);
    }

    private static void shutSessionsStayLaid() {
        TalkGrid x = withSessions(3, 1, 3);
        x.wish(0, 1, 4);
        x.wish(1, 2, 2);
        Check.due("plan()", x.plan(), 6);
        x.shut(0);
        laid(x, 0, 0, 0, 0);
        Check.due("count(5) of the plan as it is", x.count(5), 6);
        Check.due("print()", x.print(), 3);
        Check.due("mend()", x.mend(), 0);
        laid(x, 0, -1, 0, 0);
        Check.due("count(5)", x.count(5), 2);
    }

    private static void telling() {
        TalkGrid x = withSessions(1, 1, 1);
        x.plan();
        Check.due("laid(8, 0)", x.laid(8, 0), -2);
        Check.due("laid(-1, 0)", x.laid(-1, 0), -2);
        Check.due("laid(0, 4)", x.laid(0, 4), -2);
        Check.due("laid(0, -1)", x.laid(0, -1), -2);
        Check.due("laid(7, 3)", x.laid(7, 3), -1);
    }
}
