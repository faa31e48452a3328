/** Terms III, sentence by sentence: the grid, layings, the printed one, what falls out and what fills, and days. */
public final class TermsIIITest {
    public static void main(String[] args) {
        slots();
        rooms();
        wishes();
        everyOpenSession();
        eachRoomOnce();
        nobodyInTwo();
        themes();
        keynotes();
        seats();
        leastWishes();
        leastSlots();
        leastRooms();
        printed();
        fewestMoved();
        mendedTies();
        mendedIsBoth();
        fallsOut();
        waiting();
        filledByTheme();
        filledBeside();
        filledBehind();
        days();
        push();
        cut();
        Check.finish();
    }

    /** Sessions with a talk each, of unlike themes and people, 10 ears each. */
    private static TalkGrid withSessions(int n, int slots, int rooms) {
        TalkGrid x = new TalkGrid();
        x.slots(slots);
        for (int r = 0; r < rooms; r++) {
            x.room(r, 10);
        }
        for (int s = 0; s < n; s++) {
            x.talk(s, 10, 10, s, -1, -1);
            x.open(s, 30 + s, false);
            x.put(s, s);
        }
        return x;
    }

    private static void laid(TalkGrid x, int what, int... want) {
        for (int s = 0; s < want.length; s++) {
            Check.due("laid(" + s + ", " + what + ")", x.laid(s, what), want[s]);
        }
        for (int s = want.length; s < 8; s++) {
            Check.due("laid(" + s + ", " + what + ")", x.laid(s, what), -1);
        }
    }

    private static void slots() {
        Check.sentence("A GRID has 1 .. 5 SLOTS");
        Check.bounds("slots", 1, 5, TalkGrid::slots);
        for (int n = 1; n <= 5; n++) {
            TalkGrid x = new TalkGrid();
            x.slots(n);
            for (int s = 0; s < n; s++) {
                x.open(s, 7, false);
            }
            Check.due("as many with one chair as slots", x.plan(), 0);
            laid(x, 0, java.util.Arrays.copyOf(new int[] {0, 1, 2, 3, 4}, n));
            x.open(n, 7, false);
            Check.due("one more", x.plan(), -1);
        }
    }

    private static void rooms() {
        Check.sentence("and ROOMS 0 .. 5, each with so many seats (0 .. 999; 0 at first).");
        Check.bounds("room", 0, 5, (x, r) -> x.room(r, 1));
        Check.bounds("seats", 0, 999, (x, seats) -> x.room(0, seats));
        TalkGrid x = new TalkGrid();
        for (int r = 0; r < 6; r++) {
            Check.due("at first", x.room(r, 100 + r), 0);
        }
        for (int r = 0; r < 6; r++) {
            Check.due("each its own", x.room(r, 0), 100 + r);
        }
        for (int r = 0; r < 6; r++) {
            TalkGrid y = withSessions(1, 1, 0);
            Check.due("no seats", y.plan(), -1);
            y.room(r, 10);
            Check.due("one room", y.plan(), 0);
            laid(y, 1, r);
        }
    }

    private static void wishes() {
        Check.sentence("WISHES of two SESSIONS: how many would hear both.");
        Check.bounds("wishes", 0, 9999, (x, n) -> x.wish(0, 1, n));
        TalkGrid x = withSessions(8, 1, 6);
        int n = 1;
        for (int s = 0; s < 8; s++) {
            for (int o = 0; o < s; o++) {
                Check.due("at first", x.wish(s, o, n), 0);
                n *= 3;
                n %= 9973;
            }
        }
        n = 1;
        for (int s = 0; s < 8; s++) {
            for (int o = 0; o < s; o++) {
                Check.due("of the same two", x.wish(o, s, 0), n);
                n *= 3;
                n %= 9973;
            }
        }
    }

    private static void everyOpenSession() {
        Check.sentence("A LAYING puts each open SESSION in a SLOT and a ROOM,");
        TalkGrid none = new TalkGrid();
        Check.due("no session", none.plan(), 0);
        laid(none, 0);
        laid(none, 1);
        TalkGrid x = withSessions(8, 5, 6);
        x.shut(2);
        x.shut(5);
        Check.due("plan()", x.plan(), 0);
        laid(x, 0, 0, 0, -1, 0, 0, -1, 0, 0);
        laid(x, 1, 0, 1, -1, 2, 3, -1, 4, 5);
        TalkGrid y = withSessions(8, 5, 6);
        Check.due("plan()", y.plan(), 0);
        laid(y, 0, 0, 0, 0, 0, 0, 0, 1, 1);
        laid(y, 1, 0, 1, 2, 3, 4, 5, 0, 1);
    }

    private static void eachRoomOnce() {
        Check.sentence("each ROOM once a SLOT,");
        for (int rooms = 1; rooms <= 6; rooms++) {
            TalkGrid x = withSessions(rooms, 1, rooms);
            Check.due(rooms + " sessions in as many rooms", x.plan(), 0);
            laid(x, 1, java.util.Arrays.copyOf(new int[] {0, 1, 2, 3, 4, 5}, rooms));
            x.open(7, 39, false);
            x.put(7, x.talk(0, 10, 10, 9, -1, -1));
            Check.due("one more", x.plan(), -1);
            x.slots(2);
            Check.due("in two slots", x.plan(), 0);
            Check.due("the slot of the one more", x.laid(7, 0), 1);
            Check.due("a room again in another slot", x.laid(7, 1), 0);
        }
        TalkGrid x = withSessions(5, 5, 1);
        Check.due("one room, five slots", x.plan(), 0);
        laid(x, 0, 0, 1, 2, 3, 4);
        laid(x, 1, 0, 0, 0, 0, 0);
        x.open(5, 9, false);
        Check.due("without ears in an empty room", x.plan(), 0);
        laid(x, 1, 0, 0, 0, 0, 0, 1);
    }

    private static void nobodyInTwo() {
        Check.sentence("so that in each SLOT no one of PEOPLE is in two,");
        for (int with = 0; with < 3; with++) {
            TalkGrid x = withSessions(2, 1, 2);
            int[] speakers = {20, 21, 22};
            speakers[with] = 31;
            x.put(0, x.talk(0, 10, 10, speakers[0], speakers[1], speakers[2]));
            Check.due("a speaker chairs the other", x.plan(), -1);
            speakers[with] = 1;
            x.fallOut(2);
            Check.due("not any more", x.plan(), 0);
            x.put(0, x.talk(0, 10, 10, speakers[0], speakers[1], speakers[2]));
            Check.due("a speaker speaks in the other", x.plan(), -1);
            x.slots(2);
            Check.due("in two slots", x.plan(), 0);
            laid(x, 0, 0, 1);
        }
        TalkGrid x = withSessions(1, 1, 1);
        x.put(0, x.talk(0, 10, 10, 30, 0, -1));
        Check.due("twice in one session is no matter", x.plan(), 0);
        TalkGrid y = withSessions(2, 1, 2);
        y.shut(1);
        y.open(1, 30, false);
        Check.due("both have one chair", y.plan(), -1);
        y.open(2, 20, false);
        y.wish(0, 2, 5);
        y.wish(1, 2, 5);
        Check.due("another with both", y.plan(), -1);
    }

    private static void themes() {
        Check.sentence("of no THEME there are more than theme SESSIONS,");
        for (int theme = 1; theme <= 6; theme++) {
            TalkGrid x = withSessions(0, 1, 6);
            Check.rules(x, "theme " + theme + ";");
            for (int s = 0; s < theme; s++) {
                x.open(s, 30 + s, false);
                x.put(s, x.talk(7, 10, 10, s, -1, -1));
            }
            Check.due(theme + " of a theme", x.plan(), 0);
            if (theme < 6) {
                x.open(7, 20, false);
                x.put(7, x.talk(7, 10, 10, 21, -1, -1));
                Check.due("one more", x.plan(), -1);
                x.slots(2);
                Check.due("in two slots", x.plan(), 0);
                Check.due("the one more", x.laid(7, 0), 1);
                x.slots(1);
                x.fallOut(theme);
                x.put(7, x.talk(6, 10, 10, 22, -1, -1));
                Check.due("one more of another theme", x.plan(), 0);
            }
        }
        TalkGrid z = withSessions(0, 1, 6);
        for (int s = 0; s < 3; s++) {
            z.open(s, s, false);
            z.wish(0, Math.max(1, s), 5);
        }
        z.put(1, z.talk(0, 10, 10, 20, -1, -1));
        z.put(2, z.talk(0, 10, 10, 21, -1, -1));
        Check.due("two of a theme and one without", z.plan(), 10);
        Check.rules(z, "theme 1;");
        Check.due("one of a theme", z.plan(), -1);
        TalkGrid y = withSessions(0, 1, 6);
        Check.rules(y, "theme 1;");
        for (int s = 0; s < 6; s++) {
            y.open(s, 30 + s, false);
        }
        Check.due("six without a theme", y.plan(), 0);
        y.put(0, y.talk(0, 10, 10, 0, -1, -1));
        y.put(1, y.talk(1, 10, 10, 1, -1, -1));
        y.put(1, y.talk(0, 10, 10, 2, -1, -1));
        Check.due("the first talk alone tells the theme", y.plan(), 0);
        y.fallOut(1);
        Check.due("of one theme now", y.plan(), -1);
    }

    private static void keynotes() {
        Check.sentence("a KEYNOTE is alone,");
        TalkGrid x = new TalkGrid();
        x.open(3, 1, true);
        Check.due("alone", x.plan(), 0);
        x.open(5, 2, false);
        Check.due("with another", x.plan(), -1);
        x.slots(2);
        Check.due("in two slots", x.plan(), 0);
        laid(x, 0, -1, -1, -1, 0, -1, 1);
        x.open(0, 3, false);
        Check.due("the others together", x.plan(), 0);
        laid(x, 0, 0, -1, -1, 1, -1, 0);
        x.open(7, 4, true);
        Check.due("two keynotes and others", x.plan(), -1);
        x.slots(3);
        Check.due("in three slots", x.plan(), 0);
        laid(x, 0, 0, -1, -1, 1, -1, 0, -1, 2);
        x.shut(0);
        x.shut(5);
        x.slots(2);
        Check.due("two keynotes", x.plan(), 0);
        laid(x, 0, -1, -1, -1, 0, -1, -1, -1, 1);
        x.slots(1);
        Check.due("two keynotes in one slot", x.plan(), -1);
        for (int s : new int[] {3, 7}) {
            x.shut(s);
            x.open(s, s, false);
        }
        Check.due("opened again they are none", x.plan(), 0);
        laid(x, 0, -1, -1, -1, 0, -1, -1, -1, 0);
    }

    /** Whether a session with so many ears may be in a room with so many seats. */
    private static void holds(int ears, int seats, int room, boolean so) {
        TalkGrid x = new TalkGrid();
        Check.rules(x, "room " + room + ";");
        x.open(0, 30, false);
        x.put(0, x.talk(0, 10, 1, 0, -1, -1));
        x.put(0, x.talk(0, 10, ears, 1, -1, -1));
        x.room(4, seats);
        Check.due(ears + " ears, " + seats + " seats, room " + room, x.plan(), so ? 0 : -1);
        Check.due("its room", x.laid(0, 1), so ? 4 : -1);
    }

    private static void seats() {
        Check.sentence("and a SESSION's EARS are at most room hundredths of its ROOM's seats "
                + "(100 times EARS not above room times seats).");
        holds(999, 999, 100, true);
        holds(999, 998, 100, false);
        holds(999, 500, 200, true);
        holds(999, 499, 200, false);
        holds(9, 999, 1, true);
        holds(10, 999, 1, false);
        holds(1, 100, 1, true);
        holds(1, 99, 1, false);
        holds(1, 1, 99, false);
        holds(1, 1, 100, true);
        holds(2, 1, 200, true);
        holds(2, 1, 199, false);
        holds(3, 1, 200, false);
        holds(1, 0, 200, false);
        holds(99, 150, 66, true);
        holds(100, 150, 66, false);
        holds(34, 101, 33, false);
        holds(33, 101, 33, true);
        TalkGrid x = new TalkGrid();
        x.open(0, 30, false);
        Check.due("no ears, no seats", x.plan(), 0);
        laid(x, 1, 0);
    }

    private static void leastWishes() {
        Check.sentence("PLAN: of all LAYINGS that with the least sum of WISHES of two in one SLOT;");
        TalkGrid x = withSessions(3, 2, 3);
        x.wish(0, 1, 5);
        x.wish(0, 2, 4);
        x.wish(1, 2, 6);
        Check.due("0 2 | 1", x.plan(), 4);
        laid(x, 0, 0, 1, 0);
        x.wish(0, 1, 3);
        Check.due("0 1 | 2", x.plan(), 3);
        laid(x, 0, 0, 0, 1);
        x.wish(1, 2, 2);
        Check.due("0 | 1 2", x.plan(), 2);
        laid(x, 0, 0, 1, 1);
        x.slots(1);
        Check.due("all in one", x.plan(), 3 + 4 + 2);
        x.slots(3);
        Check.due("none in one", x.plan(), 0);
        laid(x, 0, 0, 1, 2);
        x.slots(1);
        x.wish(0, 1, 9999);
        x.wish(0, 2, 9999);
        x.wish(1, 2, 9999);
        Check.due("all wishes", x.plan(), 29997);
        TalkGrid y = withSessions(6, 1, 6);
        for (int s = 0; s < 6; s++) {
            for (int o = 0; o < s; o++) {
                y.wish(s, o, 9999);
            }
        }
        Check.due("fifteen pairs", y.plan(), 149985);
        y.wish(6, 7, 9999);
        y.wish(0, 7, 9999);
        Check.due("wishes of those that aren't open", y.plan(), 149985);
        y.slots(3);
        Check.due("three pairs", y.plan(), 29997);
        laid(y, 0, 0, 0, 1, 1, 2, 2);
    }

    private static void leastSlots() {
        Check.sentence("of these that with the least row of SLOTS (by SESSION),");
        TalkGrid x = withSessions(4, 3, 4);
        Check.due("all in the first", x.plan(), 0);
        laid(x, 0, 0, 0, 0, 0);
        x.wish(2, 3, 1);
        Check.due("the later one moves", x.plan(), 0);
        laid(x, 0, 0, 0, 0, 1);
        x.wish(2, 3, 0);
        x.wish(0, 1, 1);
        Check.due("the later one moves", x.plan(), 0);
        laid(x, 0, 0, 1, 0, 0);
        x.room(2, 0);
        x.room(3, 0);
        Check.due("two rooms", x.plan(), 0);
        laid(x, 0, 0, 1, 0, 1);
        x.room(1, 0);
        x.slots(4);
        Check.due("one room", x.plan(), 0);
        laid(x, 0, 0, 1, 2, 3);
        TalkGrid y = withSessions(8, 5, 2);
        Check.due("a row of eight", y.plan(), 0);
        laid(y, 0, 0, 0, 1, 1, 2, 2, 3, 3);
        y.wish(6, 7, 1);
        Check.due("the last one in the last slot", y.plan(), 0);
        laid(y, 0, 0, 0, 1, 1, 2, 2, 3, 4);
    }

    private static void leastRooms() {
        Check.sentence("then of ROOMS.");
        TalkGrid x = withSessions(3, 1, 6);
        Check.due("plan()", x.plan(), 0);
        laid(x, 1, 0, 1, 2);
        x.room(0, 9);
        x.room(2, 9);
        Check.due("plan()", x.plan(), 0);
        laid(x, 1, 1, 3, 4);
        x.put(1, x.talk(0, 10, 50, 9, -1, -1));
        x.room(1, 50);
        Check.due("the first leaves what the second needs", x.plan(), 0);
        laid(x, 1, 3, 1, 4);
        x.room(5, 50);
        Check.due("it needn't", x.plan(), 0);
        laid(x, 1, 1, 5, 3);
        x.fallOut(2);
        Check.due("without ears in a room without seats", x.plan(), 0);
        laid(x, 1, 1, 5, 0);
    }

    private static void printed() {
        Check.sentence("PRINTED: the latest PLAN.");
        TalkGrid x = withSessions(2, 2, 2);
        x.plan();
        laid(x, 2);
        x.print();
        laid(x, 2, 0, 0);
        laid(x, 3, 0, 1);
        x.wish(0, 1, 1);
        x.plan();
        laid(x, 2, 0, 0);
        x.wish(0, 1, 0);
        x.plan();
        x.room(0, 0);
        x.plan();
        Check.due("print()", x.print(), 2);
        laid(x, 2, 0, 1);
        laid(x, 3, 1, 1);
    }

    private static void fewestMoved() {
        Check.sentence("MENDED: of all LAYINGS (as things are now) that in which the fewest SESSIONS that are PRINTED and open "
                + "have another SLOT than they had;");
        TalkGrid x = withSessions(4, 2, 4);
        x.plan();
        x.print();
        laid(x, 2, 0, 0, 0, 0);
        for (int s = 0; s < 4; s++) {
            for (int o = 0; o < s; o++) {
                x.wish(s, o, 9999);
            }
        }
        Check.due("wishes move nobody", x.mend(), 0);
        laid(x, 2, 0, 0, 0, 0);
        x.room(3, 9);
        Check.due("three rooms: one moves", x.mend(), 1);
        laid(x, 2, 0, 0, 0, 1);
        x.room(2, 9);
        Check.due("two rooms: one more", x.mend(), 1);
        laid(x, 2, 0, 0, 1, 1);
        x.room(2, 10);
        x.room(3, 10);
        Check.due("rooms that come move nobody", x.mend(), 0);
        x.slots(1);
        Check.due("one slot: two come back", x.mend(), 2);
        laid(x, 2, 0, 0, 0, 0);
        x.shut(1);
        x.room(3, 0);
        Check.due("one that is shut is no move", x.mend(), 0);
        laid(x, 2, 0, -1, 0, 0);
        x.slots(2);
        x.open(1, 31, false);
        x.put(1, 1);
        Check.due("one that isn't printed is no move", x.mend(), 0);
        laid(x, 2, 0, 1, 0, 0);
        x.shut(3);
        x.open(3, 32, false);
        Check.due("shut and open again it is printed and open", x.mend(), 1);
        laid(x, 2, 0, 1, 0, 1);
        x.print();
        Check.rules(x, "room 50;");
        Check.due("no room holds", x.mend(), -1);
        laid(x, 2, 0, 1, 0, 1);
    }

    private static void mendedTies() {
        Check.sentence("then the least sum of WISHES,");
        TalkGrid x = withSessions(3, 2, 3);
        x.plan();
        x.print();
        x.room(2, 0);
        x.wish(0, 1, 5);
        x.wish(0, 2, 4);
        x.wish(1, 2, 3);
        Check.due("one moves", x.mend(), 1);
        laid(x, 2, 1, 0, 0);
        Check.due("count(5)", x.count(5), 3);
        x.open(5, 20, false);
        x.wish(5, 0, 7);
        x.wish(5, 1, 2);
        x.wish(5, 2, 4);
        Check.due("a new one where it clashes least", x.mend(), 0);
        laid(x, 2, 1, 0, 0, -1, -1, 0);
        Check.due("count(5)", x.count(5), 3 + 2 + 4);
        TalkGrid late = new TalkGrid();
        late.slots(5);
        for (int s = 1; s <= 5; s++) {
            late.open(s, 7, false);
            late.wish(0, s, s == 5 ? 0 : 1);
        }
        late.plan();
        late.print();
        late.open(0, 8, false);
        Check.due("the first session where it clashes least, in the last slot", late.mend(), 0);
        laid(late, 2, 4, 0, 1, 2, 3, 4);
        Check.sentence("then the least row of SLOTS,");
        TalkGrid y = withSessions(3, 3, 3);
        y.plan();
        y.print();
        y.room(2, 0);
        Check.due("one moves: the last, as near as can be", y.mend(), 1);
        laid(y, 2, 0, 0, 1);
        y.shut(0);
        y.shut(1);
        y.open(4, 20, false);
        Check.due("what was printed stays, what is new is first", y.mend(), 0);
        laid(y, 2, -1, -1, 1, -1, 0);
        besideTheFirst();
        earlyAheadOfLate();
        Check.sentence("then of ROOMS:");
        y.room(0, 9);
        y.room(2, 10);
        Check.due("rooms are no moves", y.mend(), 0);
        laid(y, 3, -1, -1, 1, -1, 0);
        y.room(0, 10);
        Check.due("the least again", y.mend(), 0);
        laid(y, 3, -1, -1, 0, -1, 0);
    }

    private static void besideTheFirst() {
        TalkGrid x = new TalkGrid();
        x.slots(3);
        x.open(0, 1, false);
        x.open(2, 1, false);
        x.open(3, 1, false);
        x.plan();
        x.print();
        x.shut(0);
        x.shut(2);
        x.mend();
        laid(x, 2, -1, -1, -1, 2);
        x.open(0, 1, false);
        x.open(2, 2, false);
        x.wish(0, 2, 1);
        Check.due("0 first, 2 beside 3 or in a slot of its own", x.mend(), 0);
        laid(x, 2, 0, -1, 1, 2);
        x.shut(2);
        x.shut(0);
        x.mend();
        x.open(4, 1, false);
        x.mend();
        laid(x, 2, -1, -1, -1, 2, 0);
        x.shut(3);
        x.open(0, 1, false);
        Check.due("0 behind 4", x.mend(), 0);
        laid(x, 2, 1, -1, -1, -1, 0);
        x.open(1, 5, false);
        x.wish(1, 4, 9);
        Check.due("1 beside 0, ahead of a slot of its own", x.mend(), 0);
        laid(x, 2, 1, 1, -1, -1, 0);
    }

    /** Where the rows of slots are unlike in an early session and a later one, the early one counts. */
    private static void earlyAheadOfLate() {
        TalkGrid x = new TalkGrid();
        x.slots(5);
        for (int s = 0; s < 5; s++) {
            x.open(s, 9, false);
        }
        x.plan();
        x.print();
        for (int s = 5; s < 8; s++) {
            x.open(s, s, false);
        }
        for (int s = 1; s < 4; s++) {
            x.wish(5, s + 1, 9);
            x.wish(6, s, 9);
            x.wish(7, s, 9);
        }
        x.wish(5, 6, 1);
        x.wish(5, 7, 1);
        Check.due("5 in 0, so that 6 and 7 are in 4", x.mend(), 0);
        laid(x, 2, 0, 1, 2, 3, 4, 0, 4, 4);
        TalkGrid y = new TalkGrid();
        y.slots(3);
        for (int s : new int[] {0, 1, 3}) {
            y.open(s, 9, false);
        }
        y.plan();
        y.print();
        y.shut(1);
        y.open(7, 8, false);
        y.wish(0, 7, 1);
        Check.due("an empty slot ahead of one that isn't", y.mend(), 0);
        laid(y, 2, 0, -1, -1, 2, -1, -1, -1, 1);
    }

    private static void mendedIsBoth() {
        Check.sentence("it is the PLAN and PRINTED then.");
        TalkGrid x = withSessions(3, 3, 3);
        x.plan();
        x.print();
        x.wish(0, 1, 1);
        x.plan();
        laid(x, 0, 0, 1, 0);
        laid(x, 2, 0, 0, 0);
        x.room(2, 0);
        Check.due("from the printed one, not from the plan", x.mend(), 1);
        laid(x, 0, 0, 1, 0);
        laid(x, 2, 0, 1, 0);
        laid(x, 1, 0, 0, 1);
        laid(x, 3, 0, 0, 1);
        x.room(2, 10);
        x.wish(0, 1, 0);
        Check.due("from the mended one", x.mend(), 0);
        laid(x, 2, 0, 1, 0);
        Check.due("print()", x.print(), 3);
        laid(x, 2, 0, 1, 0);
    }

    private static void fallsOut() {
        Check.sentence("A TALK that FALLS OUT is in no SESSION any more and can't be put in one.");
        TalkGrid x = withSessions(2, 1, 2);
        x.put(0, x.talk(5, 10, 40, 31, -1, -1));
        Check.due("its speaker is in two, no room holds", x.plan(), -1);
        Check.due("fallOut(2)", x.fallOut(2), 0);
        Check.due("talks", x.session(0, 1), 1);
        Check.due("the one that is left", x.session(0, 10), 0);
        Check.due("behind it", x.session(0, 11), -1);
        Check.due("plan()", x.plan(), 0);
        Check.due("its own session", x.put(0, 2), -4);
        Check.due("another one", x.put(1, 2), -4);
        Check.due("fill", x.fill(0), -1);
        x.shut(0);
        x.open(0, 30, false);
        Check.due("its session opened again", x.put(0, 2), -4);
        Check.due("waiting, it falls out of none", x.fallOut(0), -1);
        Check.due("it can't be put either", x.put(0, 0), -4);
    }

    private static void waiting() {
        Check.sentence("WAITING: TALKS in no SESSION that haven't fallen out, as RANKED.");
        TalkGrid x = new TalkGrid();
        for (int t = 0; t < 6; t++) {
            Check.due("count(4)", x.count(4), t);
            x.talk(0, 10, 10, t, -1, -1);
        }
        x.house(30, 1);
        x.mark(30, 4, 9);
        x.mark(30, 1, 7);
        x.mark(30, 3, 8);
        x.open(0, 30, false);
        x.open(1, 31, false);
        Check.rules(x, "talks 1 6;");
        x.put(1, 4);
        Check.due("in a session", x.count(4), 5);
        x.fallOut(3);
        Check.due("fallen out", x.count(4), 4);
        int[] want = {1, 0, 2, 5, -1};
        for (int t : want) {
            Check.due("fill", x.fill(0), t);
        }
        Check.due("nobody waits", x.count(4), 0);
        x.shut(1);
        Check.due("of a shut session", x.count(4), 1);
        Check.due("fill", x.fill(0), 4);
    }

    private static void filledByTheme() {
        Check.sentence("FILLED: the first WAITING one whose THEME is that of the SESSION");
        TalkGrid x = new TalkGrid();
        int[] themes = {3, 2, 3, 2, 3, 2};
        for (int t = 0; t < 6; t++) {
            x.talk(themes[t], 10, 10, t, -1, -1);
        }
        x.house(30, 1);
        x.mark(30, 4, 9);
        x.mark(30, 2, 8);
        x.open(0, 31, false);
        x.put(0, 1);
        Check.due("of its theme", x.fill(0), 3);
        Check.due("of its theme", x.fill(0), 5);
        Check.due("none of its theme", x.fill(0), -1);
        Check.sentence("(fill any, or a SESSION without TALKS: whichever),");
        x.open(1, 32, false);
        Check.due("without talks", x.fill(1), 4);
        x.fallOut(4);
        Check.due("without talks again", x.fill(1), 2);
        x.fallOut(2);
        Check.rules(x, "fill any;");
        Check.due("fill any", x.fill(0), 0);
        Check.due("nobody waits", x.fill(1), -1);
    }

    private static void filledBeside() {
        Check.sentence("and whose speakers are in no other SESSION that the PLAN has in its SLOT");
        for (int p = 0; p < 8; p++) {
            TalkGrid x = new TalkGrid();
            x.open(1, 0, false);
            x.put(1, x.talk(0, 10, 10, 1, 2, 3));
            x.put(1, x.talk(0, 10, 10, 4, 5, 6));
            x.open(0, 7, false);
            x.room(0, 10);
            x.room(1, 10);
            Check.due("side by side", x.plan(), 0);
            for (int i = 0; i < 3; i++) {
                x.talk(0, 10, 10, i == 0 ? p : 10, i == 1 ? p : 11, i == 2 ? p : 12);
            }
            for (int i = 0; i < 3; i++) {
                Check.due("speaker " + p + " is beside, or chairs it", x.fill(0), p == 7 ? 2 + i : -1);
            }
            x.slots(2);
            Check.due("as the plan has it", x.fill(0), -1);
            x.wish(0, 1, 1);
            x.plan();
            Check.due("in another slot", x.fill(0), p == 7 ? -1 : 2);
        }
        for (int first = 0; first < 6; first += 5) {
            TalkGrid all = withSessions(6, 1, 6);
            Check.rules(all, "fill any;");
            Check.due("six side by side", all.plan(), 0);
            for (int s = 0; s < 6; s++) {
                all.talk(0, 10, 10, s, -1, -1);
            }
            for (int i = 0; i < 6; i++) {
                int s = Math.abs(first - i);
                Check.due("who speaks in it already may speak in it again", all.fill(s), 6 + s);
                Check.due("all others are beside it", all.fill(s), -1);
            }
        }
        TalkGrid y = new TalkGrid();
        y.open(1, 1, false);
        y.plan();
        y.print();
        y.open(0, 2, false);
        y.talk(0, 10, 10, 1, -1, -1);
        Check.due("the plan hasn't the session itself", y.fill(0), 0);
        y.shut(0);
        y.open(0, 2, false);
        y.plan();
        y.open(2, 3, false);
        y.fallOut(0);
        y.talk(0, 10, 10, 3, -1, -1);
        Check.due("the plan hasn't the other one", y.fill(0), 1);
        Check.sentence("(without a PLAN none asked),");
        TalkGrid z = new TalkGrid();
        z.open(0, 2, false);
        z.open(1, 1, false);
        z.talk(0, 10, 10, 1, -1, -1);
        Check.due("without a plan", z.fill(0), 0);
    }

    private static void filledBehind() {
        Check.sentence("comes behind its TALKS,");
        TalkGrid x = new TalkGrid();
        for (int t = 0; t < 8; t++) {
            x.talk(0, 10, 10, t, -1, -1);
        }
        x.open(0, 30, false);
        x.put(0, 7);
        x.put(0, 3);
        Check.due("fill", x.fill(0), 0);
        Check.due("behind", x.session(0, 12), 0);
        Check.due("ahead of it", x.session(0, 11), 3);
        Check.sentence("if there are fewer than to.");
        for (int to = 1; to <= 6; to++) {
            TalkGrid y = new TalkGrid();
            Check.rules(y, "talks 1 " + to + ";");
            y.open(0, 30, false);
            for (int t = 0; t < 8; t++) {
                y.talk(0, 10, 10, t, -1, -1);
            }
            for (int t = 0; t < to; t++) {
                Check.due("talk " + t + " of " + to, y.fill(0), t);
            }
            Check.due("as many as to", y.fill(0), -1);
            Check.due("talks", y.session(0, 1), to);
            if (to < 6) {
                Check.due("put takes more", y.put(0, 6), to + 1);
                Check.due("more than to", y.fill(0), -1);
            }
        }
    }

    private static TalkGrid withRow(String text, int... minutes) {
        TalkGrid x = new TalkGrid();
        Check.rules(x, text);
        x.open(2, 39, false);
        for (int t = 0; t < minutes.length; t++) {
            x.talk(0, minutes[t], 10, t, -1, -1);
            x.put(2, t);
        }
        return x;
    }

    private static void dayIs(TalkGrid x, int... want) {
        for (int i = 0; i < want.length; i++) {
            Check.due("day(2, " + i / 2 + ", " + i % 2 + ")", x.day(2, i / 2, i % 2), want[i]);
        }
    }

    private static void days() {
        Check.sentence("A DAY of a SLOT: each SESSION begins at minute 0;");
        TalkGrid x = withRow("", 5, 60);
        x.open(3, 38, false);
        x.put(3, x.talk(0, 30, 10, 9, -1, -1));
        x.over(0, 60);
        dayIs(x, 0, 65);
        Check.due("another session", x.day(3, 0, 0), 0);
        Check.due("another session", x.day(3, 0, 1), 30);
        x.slots(2);
        x.wish(2, 3, 1);
        x.room(0, 100);
        x.plan();
        Check.due("in a later slot", x.laid(3, 0), 1);
        Check.due("in a later slot", x.day(3, 0, 0), 0);
        Check.sentence("its TALKS one behind the other with gap minutes between.");
        dayIs(withRow("gap 0;", 5, 60, 7), 0, 5, 5, 65, 65, 72, -1);
        dayIs(withRow("gap 60;", 5, 60, 7), 0, 5, 65, 125, 185, 192, -1);
        dayIs(withRow("", 5, 60, 7), 0, 5, 10, 70, 75, 82, -1);
        dayIs(withRow("gap 60;", 60, 60, 60, 60, 60, 60), 0, 60, 120, 180, 240, 300, 360, 420, 480, 540, 600, 660, -1);
        dayIs(withRow("over cut; gap 1;", 5, 5), 0, 5, 6, 11, -1);
    }

    private static void push() {
        Check.sentence("One may run over its minutes by as many as told:");
        TalkGrid x = withRow("gap 5;", 10, 20, 30);
        x.over(1, 60);
        dayIs(x, 0, 10, 15, 95, 100, 130);
        x.over(1, 1);
        dayIs(x, 0, 10, 15, 36, 41, 71);
        Check.sentence("with push all behind it begin later;");
        x.over(0, 3);
        dayIs(x, 0, 13, 18, 39, 44, 74);
        x.over(2, 4);
        dayIs(x, 0, 13, 18, 39, 44, 78);
        x.over(0, 0);
        x.over(1, 0);
        dayIs(x, 0, 10, 15, 35, 40, 74);
        TalkGrid y = withRow("gap 60;", 60, 60, 60, 60, 60, 60);
        for (int t = 0; t < 6; t++) {
            y.over(t, 60);
        }
        dayIs(y, 0, 120, 180, 300, 360, 480, 540, 660, 720, 840, 900, 1020);
    }

    private static void cut() {
        Check.sentence("with cut what is run over is made good behind it: the gap is shortened first (down to 0),");
        TalkGrid x = withRow("over cut; gap 5;", 10, 20, 30, 40);
        int[] gapLeft = {5, 4, 3, 2, 1, 0};
        for (int over = 0; over <= 5; over++) {
            x.over(0, over);
            dayIs(x, 0, 10 + over, 10 + over + gapLeft[over], 35, 40, 70, 75, 115);
        }
        Check.sentence("what is left is taken off the next TALK's minutes (down to 0;");
        x.over(0, 6);
        dayIs(x, 0, 16, 16, 35, 40, 70, 75, 115);
        x.over(0, 24);
        dayIs(x, 0, 34, 34, 35, 40, 70, 75, 115);
        x.over(0, 25);
        dayIs(x, 0, 35, 35, 35, 40, 70, 75, 115);
        Check.sentence("it may run over them itself),");
        x.over(1, 2);
        dayIs(x, 0, 35, 35, 37, 40, 70, 75, 115);
        x.over(0, 10);
        dayIs(x, 0, 20, 20, 37, 40, 70, 75, 115);
        x.over(1, 40);
        dayIs(x, 0, 20, 20, 75, 75, 75, 75, 115);
        x.over(1, 0);
        Check.sentence("then of the gap behind that, and so on.");
        x.over(0, 26);
        dayIs(x, 0, 36, 36, 36, 40, 70, 75, 115);
        x.over(0, 30);
        dayIs(x, 0, 40, 40, 40, 40, 70, 75, 115);
        x.over(0, 31);
        dayIs(x, 0, 41, 41, 41, 41, 70, 75, 115);
        x.over(0, 60);
        dayIs(x, 0, 70, 70, 70, 70, 70, 75, 115);
        x.over(2, 5);
        dayIs(x, 0, 70, 70, 70, 70, 75, 75, 115);
        x.over(1, 60);
        dayIs(x, 0, 70, 70, 130, 130, 135, 135, 135);
        x.over(3, 60);
        dayIs(x, 0, 70, 70, 130, 130, 135, 135, 195);
        TalkGrid y = withRow("over cut; gap 0;", 5, 5, 5, 5, 5, 5);
        for (int t = 0; t < 6; t++) {
            y.over(t, 60);
        }
        dayIs(y, 0, 65, 65, 125, 125, 185, 185, 245, 245, 305, 305, 365);
        TalkGrid z = withRow("over cut; gap 60;", 5, 5);
        z.over(0, 60);
        dayIs(z, 0, 65, 65, 70);
        z.over(1, 60);
        dayIs(z, 0, 65, 65, 130);
    }
}
