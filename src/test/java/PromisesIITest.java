import java.util.function.Consumer;

/** Promises 12 to 17, sentence by sentence: sessions opened, shut, put, fallen out of, filled and told. */
public final class PromisesIITest {
    private static final int[] ODD = {-1, -2, -3, -100, Integer.MIN_VALUE, Integer.MAX_VALUE};

    public static void main(String[] args) {
        open();
        shut();
        put();
        putRefused();
        fallOut();
        fill();
        fillRefused();
        session();
        Check.finish();
    }

    private static void open() {
        Check.sentence("A SESSION is opened: 1; RANGE;");
        TalkGrid x = new TalkGrid();
        for (int s = 0; s < 8; s++) {
            Check.due("open " + s, x.open(s, s == 7 ? 39 : 0, s == 7), 1);
            Check.due("count(2)", x.count(2), s + 1);
            Check.due("without talks", x.session(s, 1), 0);
        }
        for (int odd : ODD) {
            Seen.refused("open(" + odd + ", 1)", Busy::make, y -> y.open(odd, 1, false), -2);
            Seen.refused("open(7, " + odd + ")", Busy::make, y -> y.open(7, odd, false), -2);
            Seen.refused("ahead of open", Busy::make, y -> y.open(0, odd, false), -2);
        }
        Seen.refused("open(8, 1)", Busy::make, y -> y.open(8, 1, false), -2);
        Seen.refused("open(7, 40)", Busy::make, y -> y.open(7, 40, false), -2);
        Check.sentence("STATE: it is open.");
        Seen.refused("one with talks", Busy::make, y -> y.open(0, 15, true), -4);
        Seen.refused("a keynote", Busy::make, y -> y.open(2, 15, false), -4);
        Seen.refused("one without talks", Busy::make, y -> y.open(3, 13, false), -4);
        TalkGrid z = new TalkGrid();
        Busy.make(z);
        Check.due("shut before", z.open(4, 5, true), 1);
        Check.due("its new chair", z.session(4, 2), 5);
        Check.due("a keynote now", z.session(4, 6), 1);
        Check.due("its wishes stay", z.wish(4, 0, 0), 40);
    }

    private static void shut() {
        Check.sentence("A SESSION is shut (its TALKS are in none then): how many TALKS it had; RANGE;");
        for (int n = 0; n <= 6; n++) {
            TalkGrid x = new TalkGrid();
            x.open(0, 30, true);
            x.open(7, 31, false);
            for (int t = 0; t < n; t++) {
                x.put(7, x.talk(0, 10, 10, t, -1, -1));
            }
            Check.due("shut with " + n, x.shut(7), n);
            Check.due("not open", x.session(7, 0), 0);
            Check.due("the other is", x.count(2), 1);
            Check.due("they wait", x.count(4), n);
            for (int t = 0; t < n; t++) {
                Check.due("put in another one", x.put(0, t), t + 1);
            }
            Check.due("open again", x.open(7, 31, false), 1);
            Check.due("without talks", x.session(7, 1), 0);
            Check.due("shut again", x.shut(7), 0);
        }
        for (int odd : ODD) {
            Seen.refused("shut(" + odd + ")", Busy::make, y -> y.shut(odd), -2);
        }
        Seen.refused("shut(8)", Busy::make, y -> y.shut(8), -2);
        Check.sentence("STATE: it isn't open.");
        Seen.refused("shut before", Busy::make, y -> y.shut(4), -4);
        Seen.refused("never open", Busy::make, y -> y.shut(7), -4);
        Check.due("of a new object", new TalkGrid().shut(0), -4);
    }

    private static void put() {
        Check.sentence("A TALK comes behind those of a SESSION: how many it has;");
        TalkGrid x = new TalkGrid();
        x.open(7, 30, false);
        for (int t = 0; t < 6; t++) {
            x.talk(t, 10, 10, t, -1, -1);
        }
        int[] order = {5, 0, 3, 1, 4, 2};
        for (int i = 0; i < 6; i++) {
            Check.due("put " + order[i], x.put(7, order[i]), i + 1);
            Check.due("it is the last", x.session(7, 10 + i), order[i]);
            Check.due("the first stays", x.session(7, 10), 5);
            Check.due("talks", x.session(7, 1), i + 1);
        }
        TalkGrid y = new TalkGrid();
        Check.rules(y, "talks 1 1; mixed no; chair no;");
        y.open(0, 1, false);
        y.talk(0, 10, 10, 1, -1, -1);
        y.talk(1, 10, 10, 1, -1, -1);
        Check.due("what is wrong is no bar", y.put(0, 0), 1);
        Check.due("what is wrong is no bar", y.put(0, 1), 2);
        Check.due("all is wrong", y.session(0, 5), 7);
    }

    private static void putRefused() {
        Check.sentence("RANGE: no such SESSION, TALK;");
        for (int odd : ODD) {
            Seen.refused("put(" + odd + ", 9)", Busy::make, x -> x.put(odd, 9), -2);
            Seen.refused("put(0, " + odd + ")", Busy::make, x -> x.put(0, odd), -2);
            Seen.refused("ahead of what isn't open", Busy::make, x -> x.put(7, odd), -2);
        }
        Seen.refused("put(8, 9)", Busy::make, x -> x.put(8, 9), -2);
        Seen.refused("put(0, 10)", Busy::make, x -> x.put(0, 10), -2);
        Seen.refused("put(0, 40)", Busy::make, x -> x.put(0, 40), -2);
        Seen.refused("ahead of a talk that is in one", Busy::make, x -> x.put(8, 0), -2);
        Check.sentence("STATE: the SESSION isn't open, the TALK is in one, or fell out;");
        Seen.refused("shut before", Busy::make, x -> x.put(4, 9), -4);
        Seen.refused("never open", Busy::make, x -> x.put(7, 9), -4);
        Seen.refused("in it", Busy::make, x -> x.put(0, 1), -4);
        Seen.refused("in another", Busy::make, x -> x.put(3, 1), -4);
        Seen.refused("fell out", Busy::make, x -> x.put(3, 4), -4);
        Consumer<TalkGrid> full = x -> {
            Busy.make(x);
            for (int t = 5; t < 9; t++) {
                x.put(0, t);
            }
        };
        Seen.refused("in it, ahead of the seventh", full, x -> x.put(0, 1), -4);
        Seen.refused("in another, ahead of the seventh", full, x -> x.put(0, 2), -4);
        Seen.refused("fell out, ahead of the seventh", full, x -> x.put(0, 4), -4);
        Check.sentence("FULL: the seventh.");
        Seen.refused("the seventh", full, x -> x.put(0, 9), -3);
        TalkGrid x = new TalkGrid();
        full.accept(x);
        Check.due("the sixth is there", x.session(0, 1), 6);
        Check.due("it goes in another", x.put(3, 9), 1);
        x.fallOut(5);
        x.fallOut(9);
        Check.due("six again behind one that fell out", x.put(0, x.talk(0, 10, 10, 1, -1, -1)), 6);
    }

    private static void fallOut() {
        Check.sentence("A TALK FALLS OUT: the SESSION that it was in (NONE); RANGE;");
        for (int out = 0; out < 6; out++) {
            TalkGrid x = new TalkGrid();
            x.open(out, 30, false);
            for (int t = 0; t < 6; t++) {
                x.put(out, x.talk(0, 10, 10, t, -1, -1));
            }
            Check.due("fallOut " + out, x.fallOut(out), out);
            for (int i = 0; i < 6; i++) {
                Check.due("the row behind it", x.session(out, 10 + i), i == 5 ? -1 : i < out ? i : i + 1);
            }
            Check.due("talks", x.session(out, 1), 5);
            x.talk(0, 10, 10, 9, -1, -1);
            Check.due("one that waits", x.fallOut(6), -1);
            Check.due("nobody waits", x.count(4), 0);
            Check.due("they are talks still", x.count(0), 7);
        }
        for (int odd : ODD) {
            Seen.refused("fallOut(" + odd + ")", Busy::make, y -> y.fallOut(odd), -2);
        }
        Seen.refused("fallOut(10)", Busy::make, y -> y.fallOut(10), -2);
        Seen.refused("fallOut(40)", Busy::make, y -> y.fallOut(40), -2);
        Check.due("no talk at all", new TalkGrid().fallOut(0), -2);
        Check.sentence("STATE: it fell out before.");
        Seen.refused("of a session", Busy::make, y -> y.fallOut(4), -4);
        Consumer<TalkGrid> waited = y -> {
            Busy.make(y);
            y.fallOut(9);
        };
        Seen.refused("of none", waited, y -> y.fallOut(9), -4);
    }

    private static void fill() {
        Check.sentence("A SESSION is FILLED: the TALK that came; NONE: none; RANGE;");
        TalkGrid x = new TalkGrid();
        Busy.make(x);
        Check.due("the first of theme 0", x.fill(0), 6);
        Check.due("how many then", x.session(0, 1), 3);
        Check.due("behind its talks", x.session(0, 12), 6);
        Check.due("one fewer waits", x.count(4), 4);
        Check.due("the first of theme 2", x.fill(1), 5);
        Check.due("the next of theme 2", x.fill(1), 8);
        Check.due("without talks: whichever", x.fill(3), 7);
        Check.due("of theme 0 again", x.fill(0), 9);
        Check.due("nobody waits", x.count(4), 0);
        for (int odd : ODD) {
            Seen.refused("fill(" + odd + ")", Busy::make, y -> y.fill(odd), -2);
        }
        Seen.refused("fill(8)", Busy::make, y -> y.fill(8), -2);
        Check.sentence("STATE: it isn't open.");
        Seen.refused("shut before", Busy::make, y -> y.fill(4), -4);
        Seen.refused("never open", Busy::make, y -> y.fill(7), -4);
    }

    private static void fillRefused() {
        Check.sentence("NONE: none;");
        Consumer<TalkGrid> full = x -> {
            Busy.make(x);
            x.put(0, 5);
            x.put(0, 7);
            x.put(0, 8);
        };
        Seen.refused("as many as to", full, x -> x.fill(0), -1);
        Seen.refused("more than to", full.andThen(x -> x.put(0, 9)), x -> x.fill(0), -1);
        Consumer<TalkGrid> unlike = x -> {
            Busy.make(x);
            x.fallOut(6);
            x.fallOut(9);
        };
        Seen.refused("none of its theme", unlike, x -> x.fill(0), -1);
        Consumer<TalkGrid> nobody = x -> {
            Busy.make(x);
            for (int t = 5; t < 10; t++) {
                x.fallOut(t);
            }
        };
        Seen.refused("nobody waits", nobody, x -> x.fill(3), -1);
        Consumer<TalkGrid> beside = nobody.andThen(x -> x.talk(0, 10, 10, 13, 25, -1));
        Seen.refused("the plan has its speaker's session in its slot", beside, x -> x.fill(0), -1);
    }

    private static void session() {
        Check.sentence("Of SESSION s, what 0: 1 if it is open, 1: TALKS, 2: chair, 3: THEME, 4: EARS, 5: WRONG, 6: 1 if KEYNOTE; "
                + "10 + i: the i-th TALK.");
        TalkGrid x = new TalkGrid();
        Busy.make(x);
        int[][] want = {
            {1, 2, 10, 0, 25, 0, 0, -1, -1, -1, 0, 1, -1, -1, -1, -1, -1},
            {1, 1, 11, 2, 30, 0, 0, -1, -1, -1, 2, -1, -1, -1, -1, -1, -1},
            {1, 1, 12, 0, 35, 0, 1, -1, -1, -1, 3, -1, -1, -1, -1, -1, -1},
            {1, 0, 13, -1, 0, 1, 0, -1, -1, -1, -1, -1, -1, -1, -1, -1, -1},
            {0, -1, -1, -1, -1, -1, -1, -1, -1, -1, -1, -1, -1, -1, -1, -1, -1},
            {0, -1, -1, -1, -1, -1, -1, -1, -1, -1, -1, -1, -1, -1, -1, -1, -1}};
        for (int s = 0; s < want.length; s++) {
            for (int what = 0; what < want[s].length; what++) {
                Check.due("session(" + s + ", " + what + ")", x.session(s, what), want[s][what]);
            }
        }
        for (int t = 5; t < 9; t++) {
            x.put(0, t);
        }
        int[] row = {0, 1, 5, 6, 7, 8, -1, -1};
        for (int i = 0; i < row.length; i++) {
            Check.due("talk " + i + " of six", x.session(0, 10 + i), row[i]);
        }
        Check.sentence("NONE when there is none such (of one that isn't open but 0).");
        for (int odd : ODD) {
            Check.due("no such what", x.session(0, odd), -1);
            Check.due("no such what of one that isn't open", x.session(4, odd), -1);
            for (int what = 0; what < 12; what++) {
                Check.due("no such session", x.session(odd, what), -1);
            }
        }
        for (int what = 0; what < 12; what++) {
            Check.due("no such session", x.session(8, what), -1);
        }
        for (int what = 7; what < 10; what++) {
            Check.due("no such what", x.session(0, what), -1);
        }
        Check.due("never open", x.session(7, 0), 0);
        Check.due("shut before", x.session(4, 0), 0);
        Seen.same("session asks alone", Busy::make, y -> {
            Busy.make(y);
            y.session(0, 5);
            y.session(4, 10);
            y.session(9, 9);
        });
    }
}
