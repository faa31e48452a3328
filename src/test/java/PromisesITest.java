import java.util.function.Consumer;

/** Promises 1 to 11, sentence by sentence: a new object, the tape, houses, talks, marks and rules. */
public final class PromisesITest {
    private static final int[] ODD = {-1, -2, -3, -100, Integer.MIN_VALUE, Integer.MAX_VALUE};

    public static void main(String[] args) {
        newObject();
        feed();
        feedRefused();
        end();
        house();
        talk();
        talkRefused();
        mark();
        markRefused();
        score();
        ranked();
        rules();
        rulesWithFault();
        fault();
        rule();
        Check.finish();
    }

    private static void newObject() {
        Check.sentence("No TALKS, one SLOT, no seats, RULES as they are without a text.");
        TalkGrid x = new TalkGrid();
        Check.due("no talks", x.count(0), 0);
        Check.due("no talks", x.ranked(0), -1);
        Check.due("no marks", x.count(1), 0);
        Check.due("no sessions", x.count(2), 0);
        Check.due("one slot", x.count(3), 1);
        Check.due("nobody waits", x.count(4), 0);
        Check.due("no plan", x.count(5), -1);
        Check.due("no tape", x.count(6), 0);
        int[] want = {1, 4, 1, 0, 8, 100, 5, 1, 0};
        for (int what = 0; what < 9; what++) {
            Check.due("rule(" + what + ")", x.rule(what), want[what]);
        }
        for (int r = 0; r < 6; r++) {
            Check.due("no seats", x.room(r, 999), 0);
        }
        TalkGrid other = new TalkGrid();
        Check.due("another object is new", other.room(0, 1), 0);
        Seen.same("a text without lines", y -> { }, TalkGrid::rules);
    }

    private static void feed() {
        Check.sentence("Twenty bytes come behind THE TAPE, the highest of each int first: how many it has;");
        TalkGrid x = new TalkGrid();
        // "talks 2 3;mixed no;\n", five ints of four bytes each.
        Check.due("feed", x.feed(0x74616c6b, 0x73203220, 0x333b6d69, 0x78656420, 0x6e6f3b0a), 20);
        // "gap 8;chair yes;    "
        Check.due("feed", x.feed(0x67617020, 0x383b6368, 0x61697220, 0x7965733b, 0x20202020), 40);
        Check.due("count(6)", x.count(6), 40);
        Check.due("rules()", x.rules(), 4);
        int[] want = {2, 3, 0, 1, 8, 100, 8, 1, 0};
        for (int what = 0; what < 9; what++) {
            Check.due("rule(" + what + ")", x.rule(what), want[what]);
        }
        Check.due("bytes above 127", x.feed(-1, -1, -1, -1, -1), 20);
        Check.due("rules()", x.rules(), -1);
        Check.due("at the first", x.fault(1), 0);
        Check.due("behind the first bytes alone", x.feed(0x67617020, 0x363b2020, 0, 0, 0), 20);
        Check.due("end(6)", x.end(6), 6);
        Check.due("feed behind six", x.feed(0x726f6f6d, 0x20203131, 0x303b2020, 0x0a0a0a0a, 0x20200a20), 26);
        Check.due("rules()", x.rules(), 2);
        Check.due("rule(5)", x.rule(5), 110);
        Check.due("rule(6)", x.rule(6), 6);
    }

    private static void feedRefused() {
        Check.sentence("FULL when there would be more than 400.");
        Consumer<TalkGrid> full = x -> {
            Busy.make(x);
            for (int i = 0; i < 19; i++) {
                Check.feedBlanks(x);
            }
        };
        Seen.refused("feed behind 400", full, x -> x.feed(0, 0, 0, 0, 0), -3);
        Seen.refused("feed behind 399", full.andThen(x -> x.end(399)), x -> x.feed(0, 0, 0, 0, 0), -3);
        Seen.refused("feed behind 381", full.andThen(x -> x.end(381)), x -> x.feed(0, 0, 0, 0, 0), -3);
        TalkGrid x = new TalkGrid();
        full.accept(x);
        x.end(380);
        Check.due("feed behind 380", Check.feedBlanks(x), 400);
        Check.due("what was refused is not there", x.rules(), 2);
    }

    private static void end() {
        Check.sentence("THE TAPE has its first n bytes alone: n;");
        TalkGrid x = new TalkGrid();
        Check.due("end(0) of none", x.end(0), 0);
        Check.feedBlanks(x);
        Check.due("end of all", x.end(20), 20);
        Check.due("end(19)", x.end(19), 19);
        Check.due("count(6)", x.count(6), 19);
        Check.due("end(1)", x.end(1), 1);
        Check.due("end(0)", x.end(0), 0);
        Check.due("count(6)", x.count(6), 0);
        Check.feed(x, "gap 9;gap 8;");
        Check.due("the first six", x.end(6), 6);
        Check.due("rules()", x.rules(), 1);
        Check.due("rule(6)", x.rule(6), 9);
        Check.feed(x, "gap 33;");
        x.end(5);
        Check.due("behind them come others", Check.feedBlanks(x), 25);
        Check.due("rules()", x.rules(), -1);
        Check.due("what was cut off is no more", x.fault(1), 25);
        Check.sentence("NONE when it has not so many, or n is below 0.");
        for (int n : new int[] {21, 22, 400, 401, -1, -2, Integer.MIN_VALUE, Integer.MAX_VALUE}) {
            Seen.refused("end(" + n + ")", Busy::make, y -> y.end(n), -1);
        }
        Check.due("of none", new TalkGrid().end(1), -1);
        Check.due("of none", new TalkGrid().end(-1), -1);
        TalkGrid y = new TalkGrid();
        Check.feedBlanks(y);
        y.end(7);
        Check.due("what was cut off can't come again", y.end(8), -1);
    }

    private static void house() {
        Check.sentence("One of PEOPLE is of a HOUSE: of which it was; RANGE.");
        TalkGrid x = new TalkGrid();
        int was = 0;
        for (int house : new int[] {9, 0, 5, 5, 1}) {
            Check.due("house(39, " + house + ")", x.house(39, house), was);
            was = house;
        }
        Check.due("nobody else", x.house(38, 0), 0);
        for (int odd : ODD) {
            Seen.refused("house(" + odd + ", 1)", Busy::make, y -> y.house(odd, 1), -2);
            Seen.refused("house(1, " + odd + ")", Busy::make, y -> y.house(1, odd), -2);
        }
        Seen.refused("house(40, 1)", Busy::make, y -> y.house(40, 1), -2);
        Seen.refused("house(1, 10)", Busy::make, y -> y.house(1, 10), -2);
    }

    private static void talk() {
        Check.sentence("A TALK (q, r NONE: fewer speakers; r NONE if q is): its number; RANGE; FULL.");
        TalkGrid x = new TalkGrid();
        Check.due("one speaker", x.talk(0, 5, 1, 0, -1, -1), 0);
        Check.due("two", x.talk(0, 5, 1, 1, 2, -1), 1);
        Check.due("three", x.talk(0, 5, 1, 3, 4, 5), 2);
        Check.due("the third without the second", x.talk(0, 5, 1, 3, -1, 5), -2);
        Check.due("a refused one takes no number", x.talk(7, 60, 999, 39, 38, 37), 3);
        x.house(0, 1);
        x.house(1, 2);
        x.house(2, 3);
        x.house(3, 4);
        x.house(4, 5);
        x.house(5, 6);
        for (int p = 0; p <= 5; p++) {
            Check.due("0 alone speaks", x.mark(p, 0, 1) == -4 ? 1 : 0, p == 0 ? 1 : 0);
            Check.due("1 and 2 speak", x.mark(p, 1, 1) == -4 ? 1 : 0, p == 1 || p == 2 ? 1 : 0);
            Check.due("3 to 5 speak", x.mark(p, 2, 1) == -4 ? 1 : 0, p >= 3 ? 1 : 0);
        }
    }

    private static void talkRefused() {
        int[] good = {1, 20, 30, 3, 4, 5};
        int[][] least = {{0, 7}, {5, 60}, {1, 999}, {0, 39}, {0, 39}, {0, 39}};
        for (int i = 0; i < 6; i++) {
            for (int n : new int[] {least[i][0] - 1, least[i][1] + 1, -2, Integer.MIN_VALUE, Integer.MAX_VALUE}) {
                int[] a = good.clone();
                a[i] = n;
                if (i != 5 || n != -1) {
                    Seen.refused("talk" + java.util.Arrays.toString(a), Busy::make,
                            y -> y.talk(a[0], a[1], a[2], a[3], a[4], a[5]), -2);
                }
            }
        }
        Consumer<TalkGrid> full = x -> {
            Busy.make(x);
            for (int t = 10; t < 40; t++) {
                x.talk(1, 20, 30, 3, 4, 5);
            }
        };
        Seen.refused("the forty-first", full, x -> x.talk(1, 20, 30, 3, 4, 5), -3);
        Seen.refused("a wrong forty-first", full, x -> x.talk(8, 20, 30, 3, 4, 5), -2);
        Seen.refused("a wrong forty-first", full, x -> x.talk(1, 20, 30, 3, -1, 5), -2);
    }

    private static void mark() {
        Check.sentence("A MARK: how many the TALK has;");
        TalkGrid x = new TalkGrid();
        x.talk(0, 5, 1, 0, -1, -1);
        x.talk(0, 5, 1, 0, -1, -1);
        for (int p = 1; p < 40; p++) {
            x.house(p, 1);
            Check.due("mark " + p, x.mark(p, 0, p % 21), p);
            Check.due("count(1)", x.count(1), p);
        }
        Check.due("of another talk", x.mark(39, 1, 20), 1);
        Check.due("count(1)", x.count(1), 40);
    }

    private static void markRefused() {
        Check.sentence("RANGE: no such reader, TALK, MARK;");
        for (int odd : ODD) {
            Seen.refused("mark(" + odd + ", 9, 5)", Busy::make, x -> x.mark(odd, 9, 5), -2);
            Seen.refused("mark(32, " + odd + ", 5)", Busy::make, x -> x.mark(32, odd, 5), -2);
            Seen.refused("mark(32, 9, " + odd + ")", Busy::make, x -> x.mark(32, 9, odd), -2);
        }
        Seen.refused("mark(40, 9, 5)", Busy::make, x -> x.mark(40, 9, 5), -2);
        Seen.refused("mark(32, 10, 5)", Busy::make, x -> x.mark(32, 10, 5), -2);
        Seen.refused("mark(32, 40, 5)", Busy::make, x -> x.mark(32, 40, 5), -2);
        Seen.refused("mark(32, 9, 21)", Busy::make, x -> x.mark(32, 9, 21), -2);
        Seen.refused("ahead of barred", Busy::make, x -> x.mark(9, 9, 21), -2);
        Seen.refused("ahead of given", Busy::make, x -> x.mark(31, 9, 21), -2);
        Seen.refused("ahead of the ninth", Busy::make, x -> x.mark(30, 9, -1), -2);
        Check.due("no talk at all", new TalkGrid().mark(0, 0, 0), -2);
        Check.sentence("STATE: BARRED, or given already;");
        Seen.refused("a speaker", Busy::make, x -> x.mark(9, 9, 5), -4);
        Seen.refused("the second speaker", Busy::make, x -> x.mark(29, 9, 5), -4);
        Seen.refused("of the house", Busy::make, x -> x.mark(39, 9, 5), -4);
        Seen.refused("given already, alike", Busy::make, x -> x.mark(31, 9, 3), -4);
        Seen.refused("given already, unlike", Busy::make, x -> x.mark(31, 9, 4), -4);
        Seen.refused("given already, ahead of the ninth", Busy::make, x -> x.mark(30, 7, 5), -4);
        Consumer<TalkGrid> moved = x -> {
            Busy.make(x);
            x.house(30, 0);
        };
        Seen.refused("barred, ahead of the ninth", moved, x -> x.mark(30, 8, 5), -4);
        Check.sentence("FULL: the reader's ninth.");
        Seen.refused("the ninth", Busy::make, x -> x.mark(30, 8, 5), -3);
        TalkGrid x = new TalkGrid();
        Busy.make(x);
        Check.due("the eighth is there", x.count(1), 10);
        Check.due("the third of another", x.mark(31, 8, 5), 1);
    }

    private static void score() {
        Check.sentence("SCORE of a TALK, what 0: above (it may be below 0), 1: below (above 0), cut as far as can be;");
        TalkGrid x = new TalkGrid();
        for (int t = 0; t < 4; t++) {
            x.talk(0, 5, 1, 0, -1, -1);
        }
        x.house(1, 1);
        x.house(2, 1);
        x.mark(1, 0, 20);
        x.mark(1, 1, 0);
        x.mark(2, 0, 6);
        x.mark(2, 1, 4);
        x.mark(2, 2, 4);
        x.mark(2, 3, 6);
        Check.due("(10 + 1) / 2", x.score(0, 0), 11);
        Check.due("(10 + 1) / 2", x.score(0, 1), 2);
        Check.due("(-10 - 1) / 2", x.score(1, 0), -11);
        Check.due("(-10 - 1) / 2", x.score(1, 1), 2);
        Check.due("-1", x.score(2, 0), -1);
        Check.due("-1 over 1", x.score(2, 1), 1);
        Check.due("1", x.score(3, 0), 1);
        Check.due("1 over 1", x.score(3, 1), 1);
        Check.sentence("0 for both without MARKS, no such TALK, what.");
        for (int what = 0; what < 2; what++) {
            TalkGrid y = new TalkGrid();
            Check.due("no talk", y.score(0, what), 0);
            y.talk(0, 5, 1, 0, -1, -1);
            Check.due("without marks", y.score(0, what), 0);
            Check.due("no such talk", x.score(4, what), 0);
            Check.due("no such talk", x.score(40, what), 0);
            for (int odd : ODD) {
                Check.due("no such talk", x.score(odd, what), 0);
            }
        }
        for (int odd : ODD) {
            Check.due("no such what", x.score(0, odd), 0);
        }
        Check.due("no such what", x.score(0, 2), 0);
        Seen.same("score asks alone", Busy::make, y -> {
            Busy.make(y);
            y.score(6, 0);
            y.score(-1, 7);
        });
    }

    private static void ranked() {
        Check.sentence("The i-th RANKED TALK; NONE.");
        TalkGrid x = new TalkGrid();
        Check.due("of none", x.ranked(0), -1);
        for (int t = 0; t < 40; t++) {
            Check.due("behind all", x.ranked(t), -1);
            x.talk(0, 5, 1, 0, -1, -1);
            Check.due("the last", x.ranked(t), t);
        }
        Check.due("behind all", x.ranked(40), -1);
        for (int odd : ODD) {
            Check.due("none such", x.ranked(odd), -1);
        }
        x.house(1, 1);
        x.mark(1, 39, 1);
        Check.due("the first", x.ranked(0), 39);
        Check.due("the second", x.ranked(1), 0);
        Check.due("the last", x.ranked(39), 38);
        Seen.same("ranked asks alone", Busy::make, y -> {
            Busy.make(y);
            y.ranked(3);
        });
    }

    private static void rules() {
        Check.sentence("THE TAPE (read, and empty then) is the RULES: how many lines;");
        TalkGrid x = new TalkGrid();
        Check.due("no byte", x.rules(), 0);
        Check.due("one", Check.rules(x, "gap 1;"), 1);
        Check.due("empty then", x.count(6), 0);
        Check.due("rule(6)", x.rule(6), 1);
        Check.due("read again it is empty, and the rules are so", x.rules(), 0);
        Check.due("rule(6)", x.rule(6), 5);
        String text = "talks 2 2;mixed no;chair yes;theme 2;room 2;gap 2;over cut;fill any;";
        int lines = 0;
        for (int i = 0; i < text.length(); i++) {
            if (text.charAt(i) == ';') {
                lines++;
                Check.due(text.substring(0, i + 1), Check.rules(x, text.substring(0, i + 1)), lines);
            }
        }
        for (int i = 0; i < 21; i++) {
            Check.due("feed behind the empty one", Check.feedBlanks(x), i == 20 ? -3 : 20 * i + 20);
        }
        Check.due("blanks alone", x.rules(), 0);
    }

    private static void rulesWithFault() {
        Check.sentence("NONE with a FAULT (the RULES stay).");
        int[] want = {1, 5, 1, 1, 2, 150, 7, 0, 0};
        String[] texts = {"x", "gap 9", "gap 9;room 201;", "gap 9;gap 8;", "talks 2 3;fill any;over push;theme 9;"};
        for (String text : texts) {
            TalkGrid x = new TalkGrid();
            Busy.make(x);
            x.end(0);
            Check.due(text, Check.rules(x, text), -1);
            Check.due("empty then too", x.count(6), 0);
            for (int what = 0; what < 9; what++) {
                Check.due("rule(" + what + ") behind " + text, x.rule(what), want[what]);
            }
            Check.due("what the faulty text told is gone", Check.rules(x, "theme 3;"), 1);
            Check.due("rule(6)", x.rule(6), 5);
        }
        Consumer<TalkGrid> again = x -> {
            Busy.make(x);
            x.end(0);
        };
        Seen.same("the same faulty text again", again, again.andThen(x -> Check.rules(x, "gap 7; room 201;")));
    }

    private static void fault() {
        Check.sentence("Of the latest rules(), what 0: its FAULT's KIND, 0 without (and ahead of any), 1: its PLACE (NONE).");
        TalkGrid x = new TalkGrid();
        faultIs(x, "ahead of any", 0, -1);
        Check.rules(x, "gap 61;");
        faultIs(x, "range", 2, 4);
        Check.feed(x, "x");
        faultIs(x, "not read yet", 2, 4);
        x.rules();
        faultIs(x, "syntax", 1, 0);
        Check.rules(x, "gap 1;gap");
        faultIs(x, "twice", 3, 6);
        x.rules();
        faultIs(x, "of an empty tape", 0, -1);
        Check.rules(x, "gap");
        faultIs(x, "at the end", 1, 3);
        Check.rules(x, "gap 1;");
        faultIs(x, "of a good text", 0, -1);
        Check.sentence("NONE for another what.");
        for (int odd : ODD) {
            Check.due("fault(" + odd + ")", x.fault(odd), -1);
        }
        Check.due("fault(2)", x.fault(2), -1);
        Check.rules(x, "gap 61;");
        Check.due("fault(2)", x.fault(2), -1);
        Check.due("fault(-1)", x.fault(-1), -1);
        Seen.same("fault asks alone", Busy::make, y -> {
            Busy.make(y);
            y.fault(0);
            y.fault(1);
            y.fault(2);
        });
    }

    private static void faultIs(TalkGrid x, String what, int kind, int place) {
        Check.due("kind, " + what, x.fault(0), kind);
        Check.due("place, " + what, x.fault(1), place);
    }

    private static void rule() {
        Check.sentence("RULE what: 0, 1 talks, 2 mixed (1 yes), 3 chair (1 yes), 4 theme, 5 room, 6 gap, 7 over (1 push, 0 cut), "
                + "8 fill (1 any, 0 theme).");
        TalkGrid x = new TalkGrid();
        Check.rules(x, "talks 3 5;mixed no;chair yes;theme 2;room 77;gap 0;over cut;fill any;");
        int[] want = {3, 5, 0, 1, 2, 77, 0, 0, 1};
        for (int what = 0; what < 9; what++) {
            Check.due("rule(" + what + ")", x.rule(what), want[what]);
        }
        Check.rules(x, "mixed yes;chair no;over push;fill theme;");
        int[] other = {1, 4, 1, 0, 8, 100, 5, 1, 0};
        for (int what = 0; what < 9; what++) {
            Check.due("rule(" + what + ")", x.rule(what), other[what]);
        }
        Check.sentence("-9 for another what.");
        for (int odd : ODD) {
            Check.due("rule(" + odd + ")", x.rule(odd), -9);
        }
        Check.due("rule(9)", x.rule(9), -9);
        Check.due("rule(10)", x.rule(10), -9);
        Seen.same("rule asks alone", Busy::make, y -> {
            Busy.make(y);
            y.rule(0);
            y.rule(9);
        });
    }
}
