/** Terms I, sentence by sentence: people, houses, talks, marks, scores and their order. */
public final class TermsITest {
    public static void main(String[] args) {
        calls();
        people();
        houses();
        talks();
        talkBounds();
        speakers();
        marks();
        marksOfReader();
        barred();
        scores();
        extremes();
        ranked();
        Check.finish();
    }

    private static TalkGrid withTalks(int n) {
        TalkGrid x = new TalkGrid();
        for (int t = 0; t < n; t++) {
            x.talk(t % 8, 10, 10, t, -1, -1);
        }
        return x;
    }

    private static void calls() {
        Check.sentence("An object is used for at most 512 calls after it has been made; what later calls answer is free.");
        TalkGrid x = withTalks(40);
        for (int call = 40; call < 510; call++) {
            Check.due("over, call " + call, x.over(call % 40, call % 61), call < 80 ? 0 : (call - 40) % 61);
        }
        Check.due("call 511", x.ranked(39), 39);
        Check.due("call 512", x.count(0), 40);
    }

    private static void people() {
        Check.sentence("PEOPLE 0 .. 39,");
        Check.bounds("house", 0, 39, (x, p) -> x.house(p, 1));
        Check.bounds("the first speaker", 0, 39, (x, p) -> x.talk(0, 5, 1, p, -1, -1));
        Check.bounds("the second speaker, or NONE", -1, 39, (x, p) -> x.talk(0, 5, 1, 20, p, -1));
        Check.bounds("the third speaker, or NONE", -1, 39, (x, p) -> x.talk(0, 5, 1, 20, 21, p));
        Check.bounds("the chair", 0, 39, (x, p) -> x.open(0, p, false));
        Check.bounds("the reader", 0, 39, (x, p) -> {
            x.talk(0, 5, 1, 20, -1, -1);
            x.house(20, 9);
            return x.mark(p, 0, 1);
        });
    }

    private static void houses() {
        Check.sentence("each of a HOUSE 0 .. 9 (0 at first).");
        Check.bounds("a house", 0, 9, (x, house) -> x.house(0, house));
        TalkGrid x = new TalkGrid();
        for (int p = 0; p < 40; p++) {
            Check.due("at first, of " + p, x.house(p, 1 + p % 9), 0);
        }
        for (int p = 0; p < 40; p++) {
            Check.due("each one of its own " + p, x.house(p, 9), 1 + p % 9);
        }
    }

    private static void talks() {
        Check.sentence("TALKS, at most 40, numbered from 0:");
        TalkGrid x = new TalkGrid();
        for (int t = 0; t < 40; t++) {
            Check.due("count(0)", x.count(0), t);
            Check.due("talk " + t, x.talk(0, 5, 1, 0, -1, -1), t);
        }
        Check.due("the forty-first", x.talk(0, 5, 1, 0, -1, -1), -3);
        Check.due("the forty-second", x.talk(7, 60, 999, 1, 2, 3), -3);
        Check.due("count(0)", x.count(0), 40);
        Check.due("ranked(39)", x.ranked(39), 39);
        Check.due("fallen talks keep their numbers", x.fallOut(39), -1);
        Check.due("the forty-first", x.talk(0, 5, 1, 0, -1, -1), -3);
    }

    private static void talkBounds() {
        Check.sentence("a THEME 0 .. 7,");
        Check.bounds("a theme", 0, 7, (x, theme) -> x.talk(theme, 5, 1, 0, -1, -1));
        for (int theme = 0; theme < 8; theme++) {
            TalkGrid x = new TalkGrid();
            x.open(0, 30, false);
            x.put(0, x.talk(theme, 5, 1, 0, -1, -1));
            Check.due("theme " + theme, x.session(0, 3), theme);
        }
        Check.sentence("5 .. 60 minutes,");
        Check.bounds("minutes", 5, 60, (x, minutes) -> x.talk(0, minutes, 1, 0, -1, -1));
        for (int minutes = 5; minutes <= 60; minutes++) {
            TalkGrid x = new TalkGrid();
            x.open(0, 30, false);
            x.put(0, x.talk(0, minutes, 1, 0, -1, -1));
            Check.due(minutes + " minutes", x.day(0, 0, 1), minutes);
        }
        Check.sentence("EARS foretold (1 .. 999),");
        Check.bounds("ears", 1, 999, (x, ears) -> x.talk(0, 5, ears, 0, -1, -1));
        for (int ears : new int[] {1, 2, 500, 998, 999}) {
            TalkGrid x = new TalkGrid();
            x.open(0, 30, false);
            x.put(0, x.talk(0, 5, ears, 0, -1, -1));
            Check.due(ears + " ears", x.session(0, 4), ears);
        }
    }

    private static int talkBy(int p, int q, int r) {
        return new TalkGrid().talk(0, 5, 1, p, q, r);
    }

    private static void speakers() {
        Check.sentence("one to three speakers (unlike).");
        Check.due("none", talkBy(-1, -1, -1), -2);
        Check.due("one", talkBy(0, -1, -1), 0);
        Check.due("two", talkBy(0, 39, -1), 0);
        Check.due("three", talkBy(39, 0, 20), 0);
        Check.due("the first and the second alike", talkBy(7, 7, -1), -2);
        Check.due("the first and the second alike", talkBy(7, 7, 8), -2);
        Check.due("the first and the third alike", talkBy(7, 8, 7), -2);
        Check.due("the second and the third alike", talkBy(8, 7, 7), -2);
        Check.due("all alike", talkBy(7, 7, 7), -2);
        for (int speaker = 1; speaker <= 3; speaker++) {
            TalkGrid x = new TalkGrid();
            x.talk(0, 5, 1, 1, 2, 3);
            x.open(0, speaker, false);
            x.put(0, 0);
            Check.due("speaker " + speaker + " is one", x.session(0, 5), 4);
        }
    }

    private static void marks() {
        Check.sentence("MARKS 0 .. 20 of a reader (one of PEOPLE) for a TALK,");
        Check.bounds("points", 0, 20, (x, points) -> {
            x.talk(0, 5, 1, 0, -1, -1);
            x.house(1, 1);
            return x.mark(1, 0, points);
        });
        Check.sentence("one each,");
        TalkGrid x = withTalks(2);
        for (int p = 1; p < 40; p++) {
            x.house(p, 1);
        }
        for (int p = 1; p < 40; p++) {
            Check.due("the first of " + p, x.mark(p, 0, p % 21), p);
            Check.due("the second of " + p, x.mark(p, 0, 0), -4);
        }
        Check.due("count(1): of all but the speaker", x.count(1), 39);
        Check.due("alone each is its own mean", x.score(0, 0), 0);
        Check.due("alone each is its own mean", x.score(0, 1), 1);
        x.house(39, 2);
        Check.due("for another talk", x.mark(39, 1, 5), 1);
    }

    private static void marksOfReader() {
        Check.sentence("of a reader at most 8;");
        TalkGrid x = withTalks(10);
        x.house(30, 1);
        x.house(31, 1);
        for (int t = 0; t < 8; t++) {
            Check.due("mark " + t, x.mark(30, t, 5), 1);
        }
        Check.due("the ninth", x.mark(30, 8, 5), -3);
        Check.due("the ninth of a fallen one's", x.fallOut(0), -1);
        Check.due("still the ninth", x.mark(30, 9, 5), -3);
        Check.due("another reader's first", x.mark(31, 8, 5), 1);
        Check.due("count(1)", x.count(1), 9);
    }

    private static void barred() {
        Check.sentence("BARRED is a reader who speaks in it,");
        TalkGrid x = new TalkGrid();
        x.talk(0, 5, 1, 1, 2, 3);
        x.talk(0, 5, 1, 4, -1, -1);
        for (int p = 1; p <= 4; p++) {
            x.house(p, p);
        }
        for (int p = 1; p <= 3; p++) {
            Check.due("speaker " + p, x.mark(p, 0, 1), -4);
            Check.due("of another talk", x.mark(p, 1, 1), p);
        }
        Check.sentence("or is of the HOUSE of one who does");
        for (int house = 0; house <= 9; house++) {
            x.house(10 + house, house);
            Check.due("of house " + house, x.mark(10 + house, 0, 1),
                    house >= 1 && house <= 3 ? -4 : house == 0 ? 1 : house - 2);
        }
        Check.sentence("(as told when it is marked).");
        x.house(11, 9);
        Check.due("has left the house", x.mark(11, 0, 1), 8);
        x.house(2, 8);
        Check.due("the speaker has left it", x.mark(12, 0, 1), 9);
        Check.due("the speaker is still barred", x.mark(2, 0, 1), -4);
        x.house(9, 8);
        Check.due("of the speaker's new house", x.mark(9, 0, 1), -4);
        x.house(1, 9);
        Check.due("marks of what is now a house of the talk stay", x.count(1), 3 + 9);
        Check.due("and count", x.score(0, 1), 1);
    }

    /** A reader's marks: some points for talk 0, and others for the talks behind it. */
    private static void row(TalkGrid x, int reader, int first, int others, int points) {
        x.house(reader, 1);
        x.mark(reader, 0, first);
        for (int t = 1; t <= others; t++) {
            x.mark(reader, t, points);
        }
    }

    private static void scoreIs(String what, TalkGrid x, int t, int above, int below) {
        Check.due(what + ", above", x.score(t, 0), above);
        Check.due(what + ", below", x.score(t, 1), below);
    }

    private static void scores() {
        Check.sentence("SCORE of a TALK with m MARKS: the sum of (MARK less the mean of all MARKS of its reader), over m: exact.");
        TalkGrid x = withTalks(10);
        scoreIs("without marks", x, 0, 0, 0);
        row(x, 30, 1, 2, 0);
        scoreIs("2/3", x, 0, 2, 3);
        scoreIs("-1/3", x, 1, -1, 3);
        row(x, 31, 1, 4, 0);
        scoreIs("(2/3 + 4/5) / 2", x, 0, 11, 15);
        scoreIs("(-1/3 - 1/5) / 2", x, 2, -4, 15);
        scoreIs("-1/5", x, 4, -1, 5);
        row(x, 32, 1, 6, 0);
        row(x, 33, 1, 7, 0);
        scoreIs("(2/3 + 4/5 + 6/7 + 7/8) / 4", x, 0, 2687, 3360);
        scoreIs("(-1/3 - 1/5 - 1/7 - 1/8) / 4", x, 1, -673, 3360);
        scoreIs("-1/8", x, 7, -1, 8);
        scoreIs("still without marks", x, 8, 0, 0);
        x.house(34, 1);
        x.mark(34, 8, 20);
        scoreIs("alone", x, 8, 0, 1);
        x.mark(34, 9, 0);
        scoreIs("a mark that comes moves the mean", x, 8, 10, 1);
        scoreIs("a mark that comes moves the mean", x, 9, -10, 1);
    }

    private static void extremes() {
        for (int reader : new int[] {0, 39}) {
            TalkGrid one = new TalkGrid();
            one.talk(0, 5, 1, 20, -1, -1);
            one.talk(0, 5, 1, 20, -1, -1);
            row(one, reader, 20, 1, 0);
            scoreIs("of reader " + reader, one, 0, 10, 1);
        }
        TalkGrid x = withTalks(8);
        TalkGrid y = withTalks(8);
        for (int p = 8; p < 40; p++) {
            row(x, p, 20, 7, 0);
            row(y, p, 0, 7, 20);
        }
        scoreIs("20 of 32 readers, else 0", x, 0, 35, 2);
        scoreIs("0 of 32 readers, else 20", x, 1, -5, 2);
        scoreIs("0 of 32 readers, else 20", y, 0, -35, 2);
        scoreIs("20 of 32 readers, 0 once", y, 7, 5, 2);
    }

    private static void rankedIs(TalkGrid x, int... want) {
        for (int i = 0; i < want.length; i++) {
            Check.due("ranked(" + i + ")", x.ranked(i), want[i]);
        }
        Check.due("behind all", x.ranked(want.length), -1);
    }

    private static void ranked() {
        Check.sentence("RANKED: TALKS by SCORE (the greatest first),");
        TalkGrid x = withTalks(4);
        for (int p = 30; p < 40; p++) {
            x.house(p, 1);
        }
        x.mark(30, 0, 5);
        x.mark(30, 1, 6);
        x.mark(30, 2, 7);
        rankedIs(x, 2, 1, 0, 3);
        // Talk 1 has (0 + 1/2) / 2, talk 3 has -1/2.
        x.mark(31, 1, 7);
        x.mark(31, 3, 6);
        rankedIs(x, 2, 1, 3, 0);
        // Talk 2 has (1 - 1) / 2, just below talk 1.
        x.mark(32, 2, 4);
        x.mark(32, 0, 6);
        rankedIs(x, 1, 0, 2, 3);

        Check.sentence("those without MARKS last;");
        TalkGrid y = withTalks(4);
        y.house(30, 1);
        rankedIs(y, 0, 1, 2, 3);
        y.mark(30, 3, 0);
        rankedIs(y, 3, 0, 1, 2);
        y.mark(30, 1, 20);
        rankedIs(y, 1, 3, 0, 2);

        Check.sentence("alike ones by number.");
        TalkGrid z = withTalks(5);
        for (int p = 30; p < 34; p++) {
            z.house(p, 1);
        }
        // Talk 3 has 1 of one mark, talk 1 has 2 of two marks; 4 and 2 are as far below.
        z.mark(30, 3, 3);
        z.mark(30, 2, 1);
        z.mark(31, 1, 9);
        z.mark(31, 4, 7);
        z.mark(32, 1, 3);
        z.mark(32, 4, 1);
        rankedIs(z, 1, 3, 2, 4, 0);
        z.mark(33, 0, 11);
        rankedIs(z, 1, 3, 0, 2, 4);
        z.fallOut(1);
        rankedIs(z, 1, 3, 0, 2, 4);
    }
}
