import java.util.ArrayList;
import java.util.List;
import java.util.function.Consumer;
import java.util.function.ToIntFunction;

/** All that can be seen of a desk from outside, to tell what a call leaves as it was. */
final class Seen {
    private final List<String> all = new ArrayList<>();

    /** Each part is asked of a new desk made by the same calls: many ask by changing, and a desk is good for 512 calls. */
    private Seen(Consumer<TalkGrid> made) {
        List<Consumer<TalkGrid>> parts = List.of(this::asked, this::rows, this::told, this::tape, this::planned,
                this::printed, this::mended, this::filled, this::marked);
        for (Consumer<TalkGrid> part : parts) {
            TalkGrid x = new TalkGrid();
            made.accept(x);
            part.accept(x);
        }
    }

    /** The call answers so on the desk that was made, and leaves all as it was. */
    static void refused(String call, Consumer<TalkGrid> made, ToIntFunction<TalkGrid> one, int want) {
        TalkGrid x = new TalkGrid();
        made.accept(x);
        Check.due(call, one.applyAsInt(x), want);
        same(call, made, made.andThen(one::applyAsInt));
    }

    /** Two runs of calls make desks that are seen alike. */
    static void same(String call, Consumer<TalkGrid> made, Consumer<TalkGrid> other) {
        List<String> before = new Seen(made).all;
        List<String> after = new Seen(other).all;
        for (int i = 0; i < before.size(); i++) {
            Check.that(call + ": ahead " + before.get(i) + ", behind " + after.get(i), before.get(i).equals(after.get(i)));
        }
    }

    private void note(String call, int answer) {
        all.add(call + " is " + answer);
    }

    private void asked(TalkGrid x) {
        for (int what = 0; what < 7; what++) {
            note("count " + what, x.count(what));
        }
        rules(x);
        laid(x);
        for (int t = 0; t < 40; t++) {
            note("score above " + t, x.score(t, 0));
            note("score below " + t, x.score(t, 1));
            note("ranked " + t, x.ranked(t));
        }
    }

    private void rules(TalkGrid x) {
        for (int what = 0; what < 9; what++) {
            note("rule " + what, x.rule(what));
        }
        note("fault's kind", x.fault(0));
        note("fault's place", x.fault(1));
    }

    private void laid(TalkGrid x) {
        for (int s = 0; s < 8; s++) {
            for (int what = 0; what < 4; what++) {
                note("laid " + s + " " + what, x.laid(s, what));
            }
        }
    }

    private void rows(TalkGrid x) {
        for (int s = 0; s < 8; s++) {
            for (int what = 0; what < 17; what++) {
                note("session " + s + " " + what, x.session(s, what));
            }
            for (int i = 0; i < 12; i++) {
                note("day " + s + " " + i / 2 + " " + i % 2, x.day(s, i / 2, i % 2));
            }
        }
    }

    private void told(TalkGrid x) {
        for (int p = 0; p < 40; p++) {
            note("house of " + p, x.house(p, 0));
        }
        for (int r = 0; r < 6; r++) {
            note("seats of " + r, x.room(r, 0));
        }
        for (int s = 0; s < 8; s++) {
            for (int o = 0; o < s; o++) {
                note("wishes of " + s + " " + o, x.wish(s, o, 0));
            }
        }
        for (int t = 0; t < 40; t++) {
            note("over of " + t, x.over(t, 0));
        }
        note("slots", x.slots(1));
    }

    private void tape(TalkGrid x) {
        note("rules", x.rules());
        rules(x);
    }

    private void planned(TalkGrid x) {
        note("plan", x.plan());
        laid(x);
    }

    private void printed(TalkGrid x) {
        note("print", x.print());
        laid(x);
    }

    private void mended(TalkGrid x) {
        note("mend", x.mend());
        laid(x);
    }

    private void filled(TalkGrid x) {
        for (int s = 0; s < 8; s++) {
            note("fill " + s, x.fill(s));
            note("fallOut " + s, x.fallOut(s));
            note("fill again " + s, x.fill(s));
        }
    }

    private void marked(TalkGrid x) {
        for (int reader = 28; reader < 40; reader++) {
            for (int t = 0; t < 10; t++) {
                note("mark of " + reader + " for " + t, x.mark(reader, t, 1));
            }
        }
    }
}
