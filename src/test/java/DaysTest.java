/** Promises 25 to 27: running over, days and counts. */
public final class DaysTest {
    public static void main(String[] args) {
        overs();
        push();
        cut();
        counts();
        Check.finish();
    }

    private static TalkGrid withRow(int... minutes) {
        TalkGrid x = new TalkGrid();
        x.open(2, 39, false);
        for (int t = 0; t < minutes.length; t++) {
            x.talk(0, minutes[t], 10, t, -1, -1);
            x.put(2, t);
        }
        return x;
    }

    private static void dayIs(TalkGrid x, int... want) {
        for (int i = 0; i < want.length; i++) {
            Check.due("day(2, " + i / 2 + ", " + i % 2 + ")", x.day(2, i / 2, i % 2), want[i]);
        }
    }

    private static void overs() {
        TalkGrid x = withRow(10);
        Check.due("over(0, 60)", x.over(0, 60), 0);
        Check.due("over(0, 61)", x.over(0, 61), -2);
        Check.due("over(0, -1)", x.over(0, -1), -2);
        Check.due("over(1, 0)", x.over(1, 0), -2);
        Check.due("over(-1, 0)", x.over(-1, 0), -2);
        Check.due("over(0, 0)", x.over(0, 0), 60);
        Check.due("over(0, 7)", x.over(0, 7), 0);
        x.fallOut(0);
        Check.due("a fallen talk", x.over(0, 8), 7);
    }

    private static void push() {
        TalkGrid x = withRow(20, 10, 30);
        dayIs(x, 0, 20, 25, 35, 40, 70, -1, -1);
        x.over(0, 7);
        x.over(2, 4);
        dayIs(x, 0, 27, 32, 42, 47, 81);
        Check.rules(x, "gap 0;");
        dayIs(x, 0, 27, 27, 37, 37, 71);
        Check.due("no such what", x.day(2, 0, 2), -1);
        Check.due("no such what", x.day(2, 0, -1), -1);
        Check.due("no such talk", x.day(2, -1, 0), -1);
        Check.due("no such talk", x.day(2, 3, 0), -1);
        Check.due("no such talk", x.day(2, 6, 0), -1);
        Check.due("no such session", x.day(8, 0, 0), -1);
        Check.due("no such session", x.day(-1, 0, 0), -1);
        Check.due("not open", x.day(3, 0, 0), -1);
        x.fallOut(0);
        dayIs(x, 0, 10, 10, 44, -1);
        x.shut(2);
        dayIs(x, -1, -1);
    }

    private static void cut() {
        TalkGrid x = withRow(20, 10, 30, 10);
        Check.rules(x, "over cut; gap 5;");
        dayIs(x, 0, 20, 25, 35, 40, 70, 75, 85);
        x.over(0, 3);
        dayIs(x, 0, 23, 25, 35, 40, 70, 75, 85);
        x.over(0, 5);
        dayIs(x, 0, 25, 25, 35, 40, 70, 75, 85);
        x.over(0, 9);
        dayIs(x, 0, 29, 29, 35, 40, 70, 75, 85);
        x.over(0, 17);
        dayIs(x, 0, 37, 37, 37, 40, 70, 75, 85);
        x.over(0, 23);
        dayIs(x, 0, 43, 43, 43, 43, 70, 75, 85);
        x.over(1, 6);
        dayIs(x, 0, 43, 43, 49, 49, 70, 75, 85);
        x.over(3, 2);
        dayIs(x, 0, 43, 43, 49, 49, 70, 75, 87);
        x.over(0, 60);
        x.over(2, 1);
        dayIs(x, 0, 80, 80, 86, 86, 87, 87, 89);
        Check.rules(x, "over cut; gap 0;");
        x.over(1, 0);
        x.over(2, 0);
        x.over(3, 0);
        x.over(0, 15);
        dayIs(x, 0, 35, 35, 35, 35, 60, 60, 70);
    }

    private static void counts() {
        TalkGrid x = withRow(20, 10);
        x.talk(0, 10, 10, 9, -1, -1);
        x.house(30, 1);
        x.mark(30, 0, 1);
        x.mark(30, 1, 1);
        x.slots(4);
        x.feed(0, 0, 0, 0, 0);
        int[] want = {3, 2, 1, 4, 1, -1, 20, -1};
        for (int what = 0; what < want.length; what++) {
            Check.due("count(" + what + ")", x.count(what), want[what]);
        }
        Check.due("count(-1)", x.count(-1), -1);
    }
}
