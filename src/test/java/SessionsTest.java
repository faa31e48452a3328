/** Promises 12 to 17: sessions, their rows, falling out and filling. */
public final class SessionsTest {
    public static void main(String[] args) {
        opening();
        putting();
        shutting();
        falling();
        telling();
        wrong();
        filling();
        fillingBesideOthers();
        Check.finish();
    }

    private static TalkGrid withTalks(int n) {
        TalkGrid x = new TalkGrid();
        for (int t = 0; t < n; t++) {
            x.talk(t % 2, 10, 10 + t, t, -1, -1);
        }
        return x;
    }

    private static void opening() {
        TalkGrid x = new TalkGrid();
        Check.due("open(0, 0)", x.open(0, 0, false), 1);
        Check.due("open(7, 39)", x.open(7, 39, true), 1);
        Check.due("open(8, 0)", x.open(8, 0, false), -2);
        Check.due("open(-1, 0)", x.open(-1, 0, false), -2);
        Check.due("open(1, 40)", x.open(1, 40, false), -2);
        Check.due("open(1, -1)", x.open(1, -1, false), -2);
        Check.due("open again", x.open(0, 1, false), -4);
        Check.due("range ahead of state", x.open(0, 40, false), -2);
        Check.due("the chair stays", x.session(0, 2), 0);
        Check.due("count(2)", x.count(2), 2);
    }

    private static void putting() {
        TalkGrid x = withTalks(8);
        x.open(0, 30, false);
        x.open(1, 31, false);
        for (int t = 0; t < 6; t++) {
            Check.due("put " + t, x.put(0, t), t + 1);
        }
        Check.due("the seventh", x.put(0, 6), -3);
        Check.due("in one, ahead of full", x.put(0, 5), -4);
        Check.due("in another", x.put(1, 5), -4);
        Check.due("not open", x.put(2, 6), -4);
        Check.due("no session", x.put(8, 6), -2);
        Check.due("no session", x.put(-1, 6), -2);
        Check.due("no talk", x.put(0, 8), -2);
        Check.due("no talk", x.put(2, -1), -2);
        x.fallOut(7);
        Check.due("fell out", x.put(1, 7), -4);
        Check.due("put(1, 6)", x.put(1, 6), 1);
    }

    private static void shutting() {
        TalkGrid x = withTalks(4);
        Check.due("shut(0)", x.shut(0), -4);
        Check.due("shut(8)", x.shut(8), -2);
        Check.due("shut(-1)", x.shut(-1), -2);
        x.open(0, 30, true);
        x.put(0, 0);
        x.put(0, 1);
        Check.due("count(4)", x.count(4), 2);
        Check.due("shut(0)", x.shut(0), 2);
        Check.due("count(4)", x.count(4), 4);
        Check.due("count(2)", x.count(2), 0);
        for (int what = 1; what < 13; what++) {
            Check.due("session(0, " + what + ")", x.session(0, what), -1);
        }
        Check.due("open anew", x.open(0, 31, false), 1);
        Check.due("without talks", x.session(0, 1), 0);
        Check.due("its chair", x.session(0, 2), 31);
        Check.due("no keynote", x.session(0, 6), 0);
        Check.due("a talk of before", x.put(0, 1), 1);
    }

    private static void falling() {
        TalkGrid x = withTalks(4);
        x.open(3, 30, false);
        x.put(3, 2);
        x.put(3, 0);
        x.put(3, 1);
        Check.due("fallOut(0)", x.fallOut(0), 3);
        Check.due("again", x.fallOut(0), -4);
        Check.due("fallOut(3)", x.fallOut(3), -1);
        Check.due("fallOut(4)", x.fallOut(4), -2);
        Check.due("fallOut(-1)", x.fallOut(-1), -2);
        Check.due("talks", x.session(3, 1), 2);
        Check.due("first", x.session(3, 10), 2);
        Check.due("second", x.session(3, 11), 1);
        Check.due("third", x.session(3, 12), -1);
        Check.due("fallOut(2)", x.fallOut(2), 3);
        Check.due("theme of what is first now", x.session(3, 3), 1);
        Check.due("ears", x.session(3, 4), 11);
        Check.due("nobody waits", x.count(4), 0);
        Check.due("shut", x.shut(3), 1);
        Check.due("one waits", x.count(4), 1);
    }

    private static void telling() {
        TalkGrid x = new TalkGrid();
        x.talk(6, 10, 10, 0, -1, -1);
        x.talk(2, 10, 90, 1, -1, -1);
        x.talk(2, 10, 80, 2, -1, -1);
        x.open(5, 9, true);
        int[] empty = {1, 0, 9, -1, 0, 1, 1, -1, -1, -1, -1};
        for (int what = 0; what < empty.length; what++) {
            Check.due("empty session(5, " + what + ")", x.session(5, what), empty[what]);
        }
        x.put(5, 0);
        x.put(5, 1);
        x.put(5, 2);
        int[] full = {1, 3, 9, 6, 90, 0, 1, -1, -1, -1, 0, 1, 2, -1};
        for (int what = 0; what < full.length; what++) {
            Check.due("session(5, " + what + ")", x.session(5, what), full[what]);
        }
        Check.due("session(8, 0)", x.session(8, 0), -1);
        Check.due("session(-1, 0)", x.session(-1, 0), -1);
        Check.due("session(5, -1)", x.session(5, -1), -1);
        Check.due("session(5, min)", x.session(5, Integer.MIN_VALUE), -1);
        Check.due("session(5, max)", x.session(5, Integer.MAX_VALUE), -1);
        Check.due("not open", x.session(4, 0), 0);
        Check.due("not open", x.session(4, 10), -1);
    }

    private static void wrong() {
        TalkGrid x = withTalks(6);
        x.open(0, 2, false);
        Check.due("too few", x.session(0, 5), 1);
        x.put(0, 0);
        Check.due("nothing", x.session(0, 5), 0);
        x.put(0, 2);
        Check.due("its chair speaks", x.session(0, 5), 4);
        Check.rules(x, "chair yes;");
        Check.due("its chair may", x.session(0, 5), 0);
        Check.rules(x, "chair yes; mixed no;");
        Check.due("like themes", x.session(0, 5), 0);
        x.put(0, 1);
        Check.due("unlike themes", x.session(0, 5), 2);
        Check.rules(x, "talks 1 2; mixed no;");
        Check.due("all three", x.session(0, 5), 7);
        Check.rules(x, "talks 3 3; chair yes;");
        Check.due("three are right", x.session(0, 5), 0);
        Check.rules(x, "talks 4 4; chair yes;");
        Check.due("three are too few", x.session(0, 5), 1);
    }

    private static void filling() {
        TalkGrid x = withTalks(6);
        x.house(30, 1);
        x.mark(30, 4, 3);
        x.mark(30, 3, 9);
        Check.due("fill(0)", x.fill(0), -4);
        Check.due("fill(8)", x.fill(8), -2);
        Check.due("fill(-1)", x.fill(-1), -2);
        x.open(0, 20, false);
        Check.due("an empty one: whichever is first", x.fill(0), 3);
        Check.due("of its theme, the first number", x.fill(0), 1);
        Check.due("of its theme", x.fill(0), 5);
        Check.due("none of its theme", x.fill(0), -1);
        Check.rules(x, "fill any; talks 1 3;");
        Check.due("as many as may be", x.fill(0), -1);
        Check.rules(x, "fill any; talks 1 6;");
        x.fallOut(0);
        Check.due("marked below nought is ahead of unmarked", x.fill(0), 4);
        Check.due("the one left", x.fill(0), 2);
        Check.due("nobody waits", x.fill(0), -1);
        Check.due("behind its talks", x.session(0, 14), 2);
        Check.due("talks", x.session(0, 1), 5);
    }

    private static void fillingBesideOthers() {
        TalkGrid x = new TalkGrid();
        x.talk(0, 10, 10, 1, -1, -1);
        x.talk(1, 10, 10, 2, -1, -1);
        x.talk(0, 10, 10, 2, 5, -1);
        x.talk(0, 10, 10, 6, 21, -1);
        x.talk(0, 10, 10, 7, 8, 20);
        x.open(0, 20, false);
        x.open(1, 21, false);
        x.put(0, 0);
        x.put(1, 1);
        x.room(0, 100);
        x.room(1, 100);
        Check.due("plan()", x.plan(), 0);
        Check.due("in one slot", x.laid(1, 0), 0);
        Check.due("2 speaks and 21 chairs beside it; its own chair is no bar", x.fill(0), 4);
        Check.due("nobody else", x.fill(0), -1);
        x.shut(1);
        Check.due("nobody is in a shut session", x.fill(0), 2);
        Check.due("open anew, in the plan still", x.open(1, 6, false), 1);
        Check.due("6 chairs beside it now", x.fill(0), -1);
        x.slots(2);
        x.wish(0, 1, 1);
        x.plan();
        Check.due("in two slots", x.laid(1, 0), 1);
        Check.due("nobody beside it", x.fill(0), 3);

        TalkGrid y = new TalkGrid();
        y.talk(0, 10, 10, 1, -1, -1);
        y.open(0, 20, false);
        y.open(1, 1, false);
        Check.due("without a plan", y.fill(0), 0);
        y.shut(0);
        y.shut(1);
        y.open(1, 1, false);
        Check.due("plan of 1", y.plan(), 0);
        y.open(0, 20, false);
        Check.due("not in the plan", y.fill(0), 0);
        y.fallOut(0);
        y.plan();
        y.talk(0, 10, 10, 1, -1, -1);
        Check.due("its speaker chairs beside it", y.fill(0), -1);
        y.shut(1);
        Check.due("a shut session has no chair", y.fill(0), 1);
    }
}
