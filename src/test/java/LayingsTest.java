import java.util.Random;

/** Promises 21 to 24 on crowded grids: plans and mendings compared with those of NaiveDesk. */
public final class LayingsTest {
    private static final int RUNS = 400;
    private static final int TURNS = 12;
    private static final String[] TEXTS = {"", "theme 1;", "theme 2; room 120;", "room 80;", "theme 3; room 150;"};

    private final Random random;
    private final TalkGrid x = new TalkGrid();
    private final NaiveDesk y = new NaiveDesk();
    private final int sessions;
    private int talks = 0;

    private LayingsTest(long seed) {
        random = new Random(seed);
        sessions = 4 + random.nextInt(5);
    }

    public static void main(String[] args) {
        for (int seed = 0; seed < RUNS; seed++) {
            new LayingsTest(seed).play("run " + seed);
        }
        Check.finish();
    }

    private void play(String at) {
        slots(2 + random.nextInt(4));
        for (int r = 0; r < 6; r++) {
            room(r);
        }
        for (int s = 0; s < sessions; s++) {
            fillSession(s);
            for (int o = 0; o < s; o++) {
                wish(s, o);
            }
        }
        lay(at, 0);
        for (int turn = 0; turn < TURNS; turn++) {
            disturb();
            lay(at + ", turn " + turn, random.nextInt(4));
        }
    }

    private void slots(int n) {
        x.slots(n);
        y.slots(n);
    }

    private void room(int r) {
        int seats = random.nextInt(5) * 30;
        x.room(r, seats);
        y.room(r, seats);
    }

    private void wish(int s, int o) {
        int n = random.nextInt(4) == 0 ? 0 : random.nextInt(random.nextBoolean() ? 4 : 10000);
        x.wish(s, o, n);
        y.wish(s, o, n);
    }

    private void fillSession(int s) {
        int chair = random.nextInt(40);
        boolean keynote = random.nextInt(12) == 0;
        x.open(s, chair, keynote);
        y.open(s, chair, keynote);
        for (int i = random.nextInt(3); i > 0; i--) {
            int theme = random.nextInt(3);
            int ears = 1 + random.nextInt(90);
            int p = random.nextInt(40);
            int t = x.talk(theme, 10, ears, p, -1, -1);
            y.talk(theme, 10, ears, p, -1, -1);
            talks = Math.max(talks, t + 1);
            x.put(s, t);
            y.put(s, t);
        }
    }

    private void disturb() {
        int s = random.nextInt(sessions);
        int o = (s + 1 + random.nextInt(sessions - 1)) % sessions;
        switch (random.nextInt(6)) {
            case 0:
                room(random.nextInt(6));
                break;
            case 1:
                wish(s, o);
                break;
            case 2:
                x.shut(s);
                y.shut(s);
                break;
            case 3:
                fillSession(s);
                break;
            case 4:
                slots(1 + random.nextInt(5));
                break;
            default:
                String text = TEXTS[random.nextInt(TEXTS.length)];
                Check.feed(x, text);
                byte[] bytes = new byte[(text.length() + 19) / 20 * 20];
                System.arraycopy(text.getBytes(), 0, bytes, 0, text.length());
                for (int i = 0; i < bytes.length; i += 20) {
                    int[] w = Check.words(java.util.Arrays.copyOfRange(bytes, i, i + 20));
                    y.feed(w[0], w[1], w[2], w[3], w[4]);
                }
                y.end(text.length());
                Check.due("rules of " + text, x.rules(), y.rules());
                break;
        }
    }

    private void lay(String at, int kind) {
        if (kind == 0) {
            Check.due(at + ": plan()", x.plan(), y.plan());
            same(at);
            Check.due(at + ": print()", x.print(), y.print());
        } else {
            Check.due(at + ": mend()", x.mend(), y.mend());
        }
        same(at);
        Check.due(at + ": count(5)", x.count(5), y.count(5));
    }

    private void same(String at) {
        for (int s = 0; s < 8; s++) {
            for (int what = 0; what < 4; what++) {
                Check.due(at + ": laid(" + s + ", " + what + ")", x.laid(s, what), y.laid(s, what));
            }
        }
    }
}
