/** Promises 4 to 8: houses, talks, marks, scores and their order. */
public final class MarksTest {
    public static void main(String[] args) {
        houses();
        talks();
        marks();
        barred();
        scores();
        ranks();
        Check.finish();
    }

    private static void houses() {
        TalkGrid x = new TalkGrid();
        Check.due("house(0, 9)", x.house(0, 9), 0);
        Check.due("house(0, 3)", x.house(0, 3), 9);
        Check.due("house(39, 1)", x.house(39, 1), 0);
        Check.due("house(40, 1)", x.house(40, 1), -2);
        Check.due("house(-1, 1)", x.house(-1, 1), -2);
        Check.due("house(0, 10)", x.house(0, 10), -2);
        Check.due("house(0, -1)", x.house(0, -1), -2);
        Check.due("house(0, 0)", x.house(0, 0), 3);
    }

    private static void talks() {
        TalkGrid x = new TalkGrid();
        Check.due("least", x.talk(0, 5, 1, 0, -1, -1), 0);
        Check.due("most", x.talk(7, 60, 999, 39, 38, 37), 1);
        int[][] bad = {
            {-1, 5, 1, 0, -1, -1}, {8, 5, 1, 0, -1, -1}, {0, 4, 1, 0, -1, -1}, {0, 61, 1, 0, -1, -1},
            {0, 5, 0, 0, -1, -1}, {0, 5, 1000, 0, -1, -1}, {0, 5, 1, -1, -1, -1}, {0, 5, 1, 40, -1, -1},
            {0, 5, 1, 0, 40, -1}, {0, 5, 1, 0, -2, -1}, {0, 5, 1, 0, 1, 40}, {0, 5, 1, 0, 1, -2},
            {0, 5, 1, 0, 0, -1}, {0, 5, 1, 0, 1, 0}, {0, 5, 1, 0, 1, 1}, {0, 5, 1, 0, -1, 1}, {0, 5, 1, -1, 1, 2}};
        for (int[] b : bad) {
            Check.due("talk" + java.util.Arrays.toString(b), x.talk(b[0], b[1], b[2], b[3], b[4], b[5]), -2);
        }
        for (int t = 2; t < 40; t++) {
            Check.due("talk " + t, x.talk(t % 8, 10, 10, t, -1, -1), t);
        }
        Check.due("talk 40", x.talk(0, 10, 10, 0, -1, -1), -3);
        Check.due("wrong talk 40", x.talk(9, 10, 10, 0, -1, -1), -2);
        Check.due("count(0)", x.count(0), 40);
    }

    private static void marks() {
        TalkGrid x = new TalkGrid();
        for (int t = 0; t < 10; t++) {
            x.talk(0, 10, 10, t, -1, -1);
        }
        x.house(30, 1);
        x.house(31, 1);
        Check.due("mark(30, 0, 0)", x.mark(30, 0, 0), 1);
        Check.due("mark(31, 0, 20)", x.mark(31, 0, 20), 2);
        Check.due("mark(-1, 0, 1)", x.mark(-1, 0, 1), -2);
        Check.due("mark(40, 0, 1)", x.mark(40, 0, 1), -2);
        Check.due("mark(30, -1, 1)", x.mark(30, -1, 1), -2);
        Check.due("mark(30, 10, 1)", x.mark(30, 10, 1), -2);
        Check.due("mark(30, 1, -1)", x.mark(30, 1, -1), -2);
        Check.due("mark(30, 1, 21)", x.mark(30, 1, 21), -2);
        Check.due("mark twice", x.mark(30, 0, 5), -4);
        for (int t = 1; t < 8; t++) {
            Check.due("mark of " + t, x.mark(30, t, t), 1);
        }
        Check.due("the ninth", x.mark(30, 8, 8), -3);
        Check.due("given already ahead of full", x.mark(30, 7, 8), -4);
        Check.due("range ahead of full", x.mark(30, 8, 21), -2);
        x.house(8, 1);
        Check.due("barred ahead of full", x.mark(30, 8, 8), -4);
        Check.due("count(1)", x.count(1), 9);
        Check.due("fallOut(9)", x.fallOut(9), -1);
        Check.due("a fallen talk is marked", x.mark(31, 9, 8), 1);
    }

    private static void barred() {
        TalkGrid x = new TalkGrid();
        x.talk(0, 10, 10, 0, 1, 2);
        x.house(1, 1);
        x.house(2, 2);
        for (int speaker = 0; speaker < 3; speaker++) {
            Check.due("speaker " + speaker, x.mark(speaker, 0, 1), -4);
            x.house(10, speaker);
            Check.due("of house " + speaker, x.mark(10, 0, 1), -4);
        }
        x.house(10, 3);
        Check.due("of house 3", x.mark(10, 0, 1), 1);
        x.house(10, 2);
        Check.due("the mark stays", x.score(0, 1), 1);
        x.house(2, 5);
        x.house(11, 2);
        Check.due("the speaker has left the house", x.mark(11, 0, 1), 2);
    }

    private static void scores() {
        TalkGrid x = new TalkGrid();
        for (int t = 0; t < 10; t++) {
            x.talk(0, 10, 10, t, -1, -1);
        }
        for (int p = 30; p < 40; p++) {
            x.house(p, 1);
        }
        Check.due("without marks", x.score(0, 0), 0);
        Check.due("without marks", x.score(0, 1), 0);
        x.mark(30, 0, 13);
        Check.due("alone: the mean itself", x.score(0, 0), 0);
        Check.due("nought over one", x.score(0, 1), 1);
        int[] points = {13, 0, 20, 7, 1, 1, 0};
        for (int t = 1; t < 7; t++) {
            x.mark(30, t, points[t]);
        }
        // The mean is 42 / 7.
        for (int t = 0; t < 7; t++) {
            Check.due("whole score of " + t, x.score(t, 0), points[t] - 6);
            Check.due("over one " + t, x.score(t, 1), 1);
        }
        x.mark(31, 0, 4);
        x.mark(31, 1, 5);
        x.mark(31, 2, 7);
        // The mean is 16 / 3: talk 0 has (7 - 4/3) / 2.
        Check.due("score(0, 0)", x.score(0, 0), 17);
        Check.due("score(0, 1)", x.score(0, 1), 6);
        // Talk 1 has (-6 - 1/3) / 2.
        Check.due("score(1, 0)", x.score(1, 0), -19);
        Check.due("score(1, 1)", x.score(1, 1), 6);
        Check.due("score(0, 2)", x.score(0, 2), 0);
        Check.due("score(0, -1)", x.score(0, -1), 0);
        Check.due("score(10, 1)", x.score(10, 1), 0);
        Check.due("score(-1, 1)", x.score(-1, 1), 0);
        Check.due("score(7, 1)", x.score(7, 1), 0);
    }

    private static void ranks() {
        TalkGrid x = new TalkGrid();
        for (int t = 0; t < 6; t++) {
            x.talk(0, 10, 10, t, -1, -1);
        }
        x.house(30, 1);
        x.house(31, 1);
        x.mark(30, 5, 10);
        x.mark(30, 3, 4);
        x.mark(31, 2, 10);
        x.mark(31, 1, 4);
        int[] want = {2, 5, 1, 3, 0, 4, -1};
        for (int i = 0; i < want.length; i++) {
            Check.due("ranked(" + i + ")", x.ranked(i), want[i]);
        }
        Check.due("ranked(-1)", x.ranked(-1), -1);
        x.fallOut(2);
        Check.due("a fallen talk is ranked", x.ranked(0), 2);
    }
}
