import java.math.BigInteger;
import java.util.ArrayList;
import java.util.Collections;
import java.util.HashSet;
import java.util.List;
import java.util.Set;
import java.util.TreeMap;

/** A second writing of the document, as plain as can be, to compare the program's answers with. */
final class NaiveDesk {
    static final class Talk {
        int number;
        int theme;
        int minutes;
        int ears;
        int over;
        boolean fell;
        List<Integer> speakers = new ArrayList<>();
    }

    static final class Mark {
        int reader;
        int talk;
        int points;
    }

    static final class Session {
        int chair;
        boolean keynote;
        List<Talk> talks = new ArrayList<>();

        Set<Integer> people() {
            Set<Integer> people = new HashSet<>(List.of(chair));
            talks.forEach(t -> people.addAll(t.speakers));
            return people;
        }

        int theme() {
            return talks.isEmpty() ? -1 : talks.get(0).theme;
        }

        int ears() {
            return talks.stream().mapToInt(t -> t.ears).max().orElse(0);
        }
    }

    private final StringBuilder tape = new StringBuilder();
    private int[] rules = {1, 4, 1, 0, 8, 100, 5, 1, 0};
    private int faultKind = 0;
    private int faultPlace = -1;
    private final int[] house = new int[40];
    private final List<Talk> talks = new ArrayList<>();
    private final List<Mark> marks = new ArrayList<>();
    private final TreeMap<Integer, Session> sessions = new TreeMap<>();
    private int slots = 1;
    private final int[] seats = new int[6];
    private final int[][] wishes = new int[8][8];
    /** By session: its slot and room; null without. */
    private TreeMap<Integer, int[]> plan = null;
    private TreeMap<Integer, int[]> printed = null;

    private static boolean out(int n, int least, int most) {
        return n < least || n > most;
    }

    int feed(int a, int b, int c, int d, int e) {
        if (tape.length() + 20 > 400) {
            return -3;
        }
        for (int word : new int[] {a, b, c, d, e}) {
            for (byte one : BigInteger.valueOf((word & 0xffffffffL) | 1L << 32).toByteArray()) {
                tape.append((char) (one & 255));
            }
            tape.deleteCharAt(tape.length() - 5);
        }
        return tape.length();
    }

    int end(int n) {
        if (out(n, 0, tape.length())) {
            return -1;
        }
        tape.setLength(n);
        return n;
    }

    int house(int p, int h) {
        if (out(p, 0, 39) || out(h, 0, 9)) {
            return -2;
        }
        int was = house[p];
        house[p] = h;
        return was;
    }

    int talk(int theme, int minutes, int ears, int p, int q, int r) {
        List<Integer> who = new ArrayList<>(List.of(p));
        if (q != -1) {
            who.add(q);
        }
        if (r != -1) {
            who.add(r);
        }
        boolean bad = who.stream().anyMatch(w -> out(w, 0, 39)) || new HashSet<>(who).size() < who.size()
                || q == -1 && r != -1;
        if (bad || out(theme, 0, 7) || out(minutes, 5, 60) || out(ears, 1, 999)) {
            return -2;
        }
        if (talks.size() == 40) {
            return -3;
        }
        Talk t = new Talk();
        t.number = talks.size();
        t.theme = theme;
        t.minutes = minutes;
        t.ears = ears;
        t.speakers = who;
        talks.add(t);
        return t.number;
    }

    private Talk talkOf(int t) {
        return out(t, 0, talks.size() - 1) ? null : talks.get(t);
    }

    int mark(int reader, int t, int points) {
        Talk talk = talkOf(t);
        if (out(reader, 0, 39) || talk == null || out(points, 0, 20)) {
            return -2;
        }
        if (talk.speakers.contains(reader) || talk.speakers.stream().anyMatch(p -> house[p] == house[reader])
                || marks.stream().anyMatch(m -> m.reader == reader && m.talk == t)) {
            return -4;
        }
        if (marks.stream().filter(m -> m.reader == reader).count() == 8) {
            return -3;
        }
        Mark m = new Mark();
        m.reader = reader;
        m.talk = t;
        m.points = points;
        marks.add(m);
        return (int) marks.stream().filter(o -> o.talk == t).count();
    }

    /** Above and below, cut as far as can be; null without marks. */
    private BigInteger[] scoreOf(int t) {
        BigInteger above = BigInteger.ZERO;
        BigInteger below = BigInteger.ONE;
        int many = 0;
        for (Mark m : marks) {
            if (m.talk == t) {
                many++;
                int sum = marks.stream().filter(o -> o.reader == m.reader).mapToInt(o -> o.points).sum();
                int n = (int) marks.stream().filter(o -> o.reader == m.reader).count();
                above = above.multiply(BigInteger.valueOf(n))
                        .add(BigInteger.valueOf(m.points * n - sum).multiply(below));
                below = below.multiply(BigInteger.valueOf(n));
            }
        }
        if (many == 0) {
            return null;
        }
        below = below.multiply(BigInteger.valueOf(many));
        BigInteger common = above.gcd(below);
        return new BigInteger[] {above.divide(common), below.divide(common)};
    }

    int score(int t, int what) {
        if (talkOf(t) == null || out(what, 0, 1) || scoreOf(t) == null) {
            return 0;
        }
        return scoreOf(t)[what].intValueExact();
    }

    private List<Talk> rankedTalks() {
        List<BigInteger[]> scores = new ArrayList<>();
        talks.forEach(t -> scores.add(scoreOf(t.number)));
        List<Talk> ranked = new ArrayList<>(talks);
        Collections.sort(ranked, (x, y) -> {
            BigInteger[] a = scores.get(x.number);
            BigInteger[] b = scores.get(y.number);
            if (a == null || b == null) {
                return a == null && b == null ? 0 : a == null ? 1 : -1;
            }
            return b[0].multiply(a[1]).compareTo(a[0].multiply(b[1]));
        });
        return ranked;
    }

    int ranked(int i) {
        return out(i, 0, talks.size() - 1) ? -1 : rankedTalks().get(i).number;
    }

    int rules() {
        NaiveRules read = new NaiveRules(tape.toString());
        tape.setLength(0);
        faultKind = read.kind;
        faultPlace = read.place;
        if (read.kind == 0) {
            rules = read.values;
        }
        return read.lines;
    }

    int fault(int what) {
        return what == 0 ? faultKind : what == 1 ? faultPlace : -1;
    }

    int rule(int what) {
        return out(what, 0, 8) ? -9 : rules[what];
    }

    int open(int s, int chair, boolean keynote) {
        if (out(s, 0, 7) || out(chair, 0, 39)) {
            return -2;
        }
        if (sessions.containsKey(s)) {
            return -4;
        }
        Session session = new Session();
        session.chair = chair;
        session.keynote = keynote;
        sessions.put(s, session);
        return 1;
    }

    int shut(int s) {
        if (out(s, 0, 7)) {
            return -2;
        }
        return sessions.containsKey(s) ? sessions.remove(s).talks.size() : -4;
    }

    private int sessionWith(Talk t) {
        for (int s : sessions.keySet()) {
            if (sessions.get(s).talks.contains(t)) {
                return s;
            }
        }
        return -1;
    }

    int put(int s, int t) {
        Talk talk = talkOf(t);
        if (out(s, 0, 7) || talk == null) {
            return -2;
        }
        if (!sessions.containsKey(s) || sessionWith(talk) >= 0 || talk.fell) {
            return -4;
        }
        List<Talk> row = sessions.get(s).talks;
        if (row.size() == 6) {
            return -3;
        }
        row.add(talk);
        return row.size();
    }

    int fallOut(int t) {
        Talk talk = talkOf(t);
        if (talk == null) {
            return -2;
        }
        if (talk.fell) {
            return -4;
        }
        int was = sessionWith(talk);
        if (was >= 0) {
            sessions.get(was).talks.remove(talk);
        }
        talk.fell = true;
        return was;
    }

    private List<Talk> waiting() {
        List<Talk> waiting = rankedTalks();
        waiting.removeIf(t -> t.fell || sessionWith(t) >= 0);
        return waiting;
    }

    int fill(int s) {
        if (out(s, 0, 7)) {
            return -2;
        }
        Session session = sessions.get(s);
        if (session == null) {
            return -4;
        }
        Set<Integer> beside = new HashSet<>();
        if (plan != null && plan.containsKey(s)) {
            for (int o : plan.keySet()) {
                if (o != s && plan.get(o)[0] == plan.get(s)[0] && sessions.containsKey(o)) {
                    beside.addAll(sessions.get(o).people());
                }
            }
        }
        for (Talk t : waiting()) {
            boolean like = rules[8] == 1 || session.talks.isEmpty() || t.theme == session.theme();
            if (like && Collections.disjoint(beside, t.speakers) && session.talks.size() < rules[1]) {
                session.talks.add(t);
                return t.number;
            }
        }
        return -1;
    }

    int session(int s, int what) {
        Session session = out(s, 0, 7) ? null : sessions.get(s);
        if (session == null) {
            return what == 0 && !out(s, 0, 7) ? 0 : -1;
        }
        int many = session.talks.size();
        switch (what) {
            case 0:
                return 1;
            case 1:
                return many;
            case 2:
                return session.chair;
            case 3:
                return session.theme();
            case 4:
                return session.ears();
            case 5:
                boolean mixed = session.talks.stream().map(t -> t.theme).distinct().count() > 1;
                boolean speaks = session.talks.stream().anyMatch(t -> t.speakers.contains(session.chair));
                return (out(many, rules[0], rules[1]) ? 1 : 0) + (mixed && rules[2] == 0 ? 2 : 0)
                        + (speaks && rules[3] == 0 ? 4 : 0);
            case 6:
                return session.keynote ? 1 : 0;
            default:
                return what >= 10 && what < 10 + many ? session.talks.get(what - 10).number : -1;
        }
    }

    int slots(int n) {
        if (out(n, 1, 5)) {
            return -2;
        }
        int was = slots;
        slots = n;
        return was;
    }

    int room(int r, int n) {
        if (out(r, 0, 5) || out(n, 0, 999)) {
            return -2;
        }
        int was = seats[r];
        seats[r] = n;
        return was;
    }

    int wish(int s, int o, int n) {
        if (out(s, 0, 7) || out(o, 0, 7) || s == o || out(n, 0, 9999)) {
            return -2;
        }
        int was = wishes[Math.min(s, o)][Math.max(s, o)];
        wishes[Math.min(s, o)][Math.max(s, o)] = n;
        return was;
    }

    private int clash(TreeMap<Integer, int[]> laying) {
        int sum = 0;
        for (int s : laying.keySet()) {
            for (int o : laying.tailMap(s, false).keySet()) {
                if (laying.get(s)[0] == laying.get(o)[0]) {
                    sum += wishes[s][o];
                }
            }
        }
        return sum;
    }

    /** All rows of slots in their order; the first of the least that has rooms is it. */
    private final class Search {
        final List<Integer> who = new ArrayList<>(sessions.keySet());
        final TreeMap<Integer, int[]> before;
        final int[] row = new int[who.size()];
        TreeMap<Integer, int[]> best = null;
        int bestMoves = Integer.MAX_VALUE;
        int bestClash = Integer.MAX_VALUE;

        Search(TreeMap<Integer, int[]> before) {
            this.before = before;
            lay(0, 0, 0);
        }

        void lay(int i, int moves, int clash) {
            if (moves > bestMoves || moves == bestMoves && clash >= bestClash) {
                return;
            }
            if (i == who.size()) {
                int[] rooms = new int[i];
                if (giveRooms(0, rooms)) {
                    bestMoves = moves;
                    bestClash = clash;
                    best = new TreeMap<>();
                    for (int k = 0; k < i; k++) {
                        best.put(who.get(k), new int[] {row[k], rooms[k]});
                    }
                }
                return;
            }
            int s = who.get(i);
            for (int slot = 0; slot < slots; slot++) {
                row[i] = slot;
                boolean can = true;
                int more = 0;
                int ofTheme = 1;
                for (int k = 0; k < i; k++) {
                    if (row[k] == slot) {
                        Session other = sessions.get(who.get(k));
                        Session mine = sessions.get(s);
                        can &= Collections.disjoint(mine.people(), other.people()) && !mine.keynote && !other.keynote;
                        ofTheme += mine.theme() >= 0 && mine.theme() == other.theme() ? 1 : 0;
                        more += wishes[who.get(k)][s];
                    }
                }
                if (can && ofTheme <= rules[4]) {
                    boolean moved = before != null && before.containsKey(s) && before.get(s)[0] != slot;
                    lay(i + 1, moves + (moved ? 1 : 0), clash + more);
                }
            }
        }

        boolean giveRooms(int i, int[] rooms) {
            if (i == who.size()) {
                return true;
            }
            for (int r = 0; r < 6; r++) {
                boolean can = 100 * sessions.get(who.get(i)).ears() <= rules[5] * seats[r];
                for (int k = 0; k < i; k++) {
                    can &= row[k] != row[i] || rooms[k] != r;
                }
                rooms[i] = r;
                if (can && giveRooms(i + 1, rooms)) {
                    return true;
                }
            }
            return false;
        }
    }

    int plan() {
        Search found = new Search(null);
        if (found.best == null) {
            return -1;
        }
        plan = found.best;
        return clash(plan);
    }

    int print() {
        if (plan == null) {
            return -4;
        }
        printed = plan;
        return plan.size();
    }

    int mend() {
        if (printed == null) {
            return -4;
        }
        Search found = new Search(printed);
        if (found.best == null) {
            return -1;
        }
        plan = found.best;
        printed = found.best;
        return found.bestMoves;
    }

    int laid(int s, int what) {
        if (out(s, 0, 7) || out(what, 0, 3)) {
            return -2;
        }
        TreeMap<Integer, int[]> from = what < 2 ? plan : printed;
        return from == null || !from.containsKey(s) ? -1 : from.get(s)[what % 2];
    }

    int over(int t, int minutes) {
        if (talkOf(t) == null || out(minutes, 0, 60)) {
            return -2;
        }
        int was = talks.get(t).over;
        talks.get(t).over = minutes;
        return was;
    }

    int day(int s, int i, int what) {
        if (out(s, 0, 7) || !sessions.containsKey(s) || out(i, 0, sessions.get(s).talks.size() - 1) || out(what, 0, 1)) {
            return -1;
        }
        List<Talk> row = sessions.get(s).talks;
        // The lengths of talk, gap, talk, gap ..; then what is run over is taken off those behind, one by one.
        int[] length = new int[2 * row.size()];
        for (int k = 0; k < row.size(); k++) {
            length[2 * k] = row.get(k).minutes;
            length[2 * k + 1] = rules[6];
        }
        for (int k = 0; k < row.size(); k++) {
            int owed = rules[7] == 1 ? 0 : row.get(k).over;
            for (int behind = 2 * k + 1; behind < length.length; behind++) {
                int taken = Math.min(owed, length[behind]);
                length[behind] -= taken;
                owed -= taken;
            }
        }
        int at = 0;
        for (int k = 0; k < i; k++) {
            at += length[2 * k] + row.get(k).over + length[2 * k + 1];
        }
        return what == 0 ? at : at + length[2 * i] + row.get(i).over;
    }

    int count(int what) {
        switch (what) {
            case 0:
                return talks.size();
            case 1:
                return marks.size();
            case 2:
                return sessions.size();
            case 3:
                return slots;
            case 4:
                return waiting().size();
            case 5:
                return plan == null ? -1 : clash(plan);
            case 6:
                return tape.length();
            default:
                return -1;
        }
    }
}
