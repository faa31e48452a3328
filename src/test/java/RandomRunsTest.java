import java.util.Arrays;
import java.util.Random;

/** All promises: random runs of 512 calls on the program and on NaiveDesk, each answer compared. */
public final class RandomRunsTest {
    private static final int RUNS = 400;
    private static final int CALLS = 512;
    private static final int[] ODD = {-1, -2, Integer.MIN_VALUE, Integer.MAX_VALUE, 6, 8, 10, 40, 61, 1000};
    private static final String[] TEXTS = {
        "", "talks 1 6; fill any;", "theme 1; room 80;", "mixed no; over cut; gap 3;", "chair yes; room 200; theme 2;",
        "over cut; gap 0; talks 2 3;", "fill any; over cut; gap 20;", "gap 61;", "room 5; room", "mixed no", "theme 3;;"};

    private final Random random;
    private final int people;
    private final int sessions;
    private final TalkGrid x = new TalkGrid();
    private final NaiveDesk y = new NaiveDesk();
    private int talks = 0;

    private RandomRunsTest(long seed) {
        random = new Random(seed);
        people = 10 + random.nextInt(31);
        sessions = seed % 10 == 0 ? 8 : 3 + random.nextInt(4);
    }

    public static void main(String[] args) {
        for (int seed = 0; seed < RUNS; seed++) {
            new RandomRunsTest(seed).play(seed);
        }
        Check.finish();
    }

    private void play(int seed) {
        for (int call = 0; call < CALLS; call++) {
            one("run " + seed + ", call " + call + ": ");
        }
    }

    private int number(int bound) {
        return random.nextInt(60) == 0 ? ODD[random.nextInt(ODD.length)] : random.nextInt(bound);
    }

    private int aTalk() {
        return number(Math.max(1, talks));
    }

    private void one(String at) {
        int kind = random.nextInt(100);
        if (kind < 45) {
            change(at, kind);
        } else if (kind < 57) {
            lay(at, kind);
        } else {
            ask(at, kind);
        }
    }

    private void change(String at, int kind) {
        int s = number(sessions);
        int t = aTalk();
        if (kind < 7) {
            int[] a = {number(4), 5 + number(20), 1 + number(120), number(people), random.nextBoolean() ? -1 : number(people),
                random.nextInt(4) > 0 ? -1 : number(people)};
            int got = x.talk(a[0], a[1], a[2], a[3], a[4], a[5]);
            talks = Math.max(talks, got + 1);
            Check.due(at + "talk" + Arrays.toString(a), got, y.talk(a[0], a[1], a[2], a[3], a[4], a[5]));
        } else if (kind < 10) {
            int p = number(40);
            int h = number(10);
            Check.due(at + "house(" + p + ", " + h + ")", x.house(p, h), y.house(p, h));
        } else if (kind < 18) {
            int p = number(random.nextBoolean() ? 4 : 40);
            int n = number(21);
            Check.due(at + "mark(" + p + ", " + t + ", " + n + ")", x.mark(p, t, n), y.mark(p, t, n));
        } else if (kind < 21) {
            text(at);
        } else if (kind < 25) {
            int chair = number(40);
            boolean keynote = random.nextInt(8) == 0;
            Check.due(at + "open(" + s + ", " + chair + ", " + keynote + ")", x.open(s, chair, keynote),
                    y.open(s, chair, keynote));
        } else if (kind < 26) {
            Check.due(at + "shut(" + s + ")", x.shut(s), y.shut(s));
        } else if (kind < 31) {
            Check.due(at + "put(" + s + ", " + t + ")", x.put(s, t), y.put(s, t));
        } else if (kind < 32) {
            Check.due(at + "fallOut(" + t + ")", x.fallOut(t), y.fallOut(t));
        } else if (kind < 35) {
            Check.due(at + "fill(" + s + ")", x.fill(s), y.fill(s));
        } else if (kind < 41) {
            int o = number(sessions);
            int n = random.nextInt(20) == 0 ? 9998 + random.nextInt(3) : number(9);
            Check.due(at + "wish(" + s + ", " + o + ", " + n + ")", x.wish(s, o, n), y.wish(s, o, n));
        } else {
            int n = number(61);
            Check.due(at + "over(" + t + ", " + n + ")", x.over(t, n), y.over(t, n));
        }
    }

    private void text(String at) {
        String text = TEXTS[random.nextInt(TEXTS.length)];
        byte[] bytes = new byte[(text.length() + 19) / 20 * 20];
        for (int i = 0; i < text.length(); i++) {
            bytes[i] = (byte) text.charAt(i);
        }
        for (int i = 0; i < bytes.length; i += 20) {
            int[] w = Check.words(Arrays.copyOfRange(bytes, i, i + 20));
            Check.due(at + "feed of " + text, x.feed(w[0], w[1], w[2], w[3], w[4]), y.feed(w[0], w[1], w[2], w[3], w[4]));
        }
        int n = number(text.length() + 1) == 0 ? number(400) : text.length();
        Check.due(at + "end(" + n + ")", x.end(n), y.end(n));
        Check.due(at + "rules() of " + text, x.rules(), y.rules());
        for (int what = -1; what < 3; what++) {
            Check.due(at + "fault(" + what + ") of " + text, x.fault(what), y.fault(what));
        }
        for (int what = -1; what < 10; what++) {
            Check.due(at + "rule(" + what + ") of " + text, x.rule(what), y.rule(what));
        }
    }

    private void lay(String at, int kind) {
        if (kind < 47) {
            int n = random.nextInt(30) == 0 ? number(8) : 2 + random.nextInt(4);
            Check.due(at + "slots(" + n + ")", x.slots(n), y.slots(n));
        } else if (kind < 51) {
            int r = number(6);
            int n = random.nextInt(4) == 0 ? number(60) : 50 + number(150);
            Check.due(at + "room(" + r + ", " + n + ")", x.room(r, n), y.room(r, n));
        } else if (kind < 53) {
            Check.due(at + "plan()", x.plan(), y.plan());
        } else if (kind < 54) {
            Check.due(at + "print()", x.print(), y.print());
        } else if (kind < 57) {
            Check.due(at + "mend()", x.mend(), y.mend());
        }
        for (int s = 0; s < 8 && kind >= 51; s++) {
            for (int what = 0; what < 4; what++) {
                Check.due(at + "laid(" + s + ", " + what + ")", x.laid(s, what), y.laid(s, what));
            }
        }
    }

    private void ask(String at, int kind) {
        int s = number(sessions);
        int t = aTalk();
        int what = number(2);
        if (kind < 65) {
            Check.due(at + "score(" + t + ", " + what + ")", x.score(t, what), y.score(t, what));
        } else if (kind < 70) {
            Check.due(at + "ranked(" + t + ")", x.ranked(t), y.ranked(t));
        } else if (kind < 80) {
            int which = number(17);
            Check.due(at + "session(" + s + ", " + which + ")", x.session(s, which), y.session(s, which));
        } else if (kind < 84) {
            int which = number(4);
            Check.due(at + "laid(" + s + ", " + which + ")", x.laid(s, which), y.laid(s, which));
        } else if (kind < 93) {
            int i = number(5);
            Check.due(at + "day(" + s + ", " + i + ", " + what + ")", x.day(s, i, what), y.day(s, i, what));
        } else {
            int which = number(8);
            Check.due(at + "count(" + which + ")", x.count(which), y.count(which));
        }
    }
}
