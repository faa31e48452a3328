import java.util.Random;

/** Promises 2, 3, 9, 10 and 11: the tape and the rules. */
public final class TapeTest {
    public static void main(String[] args) {
        feeding();
        bytesInOrder();
        told();
        untoldAgain();
        syntax();
        range();
        twice();
        rulesStay();
        randomTexts();
        Check.finish();
    }

    private static void feeding() {
        TalkGrid x = new TalkGrid();
        Check.due("end(0)", x.end(0), 0);
        Check.due("end(1)", x.end(1), -1);
        Check.due("end(-1)", x.end(-1), -1);
        for (int i = 1; i <= 20; i++) {
            Check.due("feed " + i, x.feed(0, 0, 0, 0, 0), 20 * i);
        }
        Check.due("feed beyond 400", x.feed(0, 0, 0, 0, 0), -3);
        Check.due("count(6)", x.count(6), 400);
        Check.due("end(401)", x.end(401), -1);
        Check.due("end(381)", x.end(381), 381);
        Check.due("feed to 401", x.feed(0, 0, 0, 0, 0), -3);
        Check.due("count(6)", x.count(6), 381);
        Check.due("end(380)", x.end(380), 380);
        Check.due("feed to 400", x.feed(0, 0, 0, 0, 0), 400);
        Check.due("end(min)", x.end(Integer.MIN_VALUE), -1);
        Check.due("end(max)", x.end(Integer.MAX_VALUE), -1);
        Check.due("rules()", x.rules(), -1);
        Check.due("count(6) of the tape when read", x.count(6), 0);
    }

    private static void bytesInOrder() {
        TalkGrid x = new TalkGrid();
        StringBuilder text = new StringBuilder("gap 7;");
        while (text.length() < 394) {
            text.append(' ');
        }
        text.append("room 9");
        Check.due("text of 400 without its end", Check.rules(x, text.toString()), -1);
        Check.due("fault(1)", x.fault(1), 400);
        text.setLength(394);
        text.append("mixed;");
        Check.due("text of 400 ending badly", Check.rules(x, text.toString()), -1);
        Check.due("fault(1)", x.fault(1), 399);
        text.setLength(393);
        text.append("room 9;");
        Check.due("text of 400", Check.rules(x, text.toString()), 2);
        Check.due("rule(5)", x.rule(5), 9);
        Check.due("rule(6)", x.rule(6), 7);
    }

    private static void rulesAre(TalkGrid x, int... want) {
        for (int what = 0; what < want.length; what++) {
            Check.due("rule(" + what + ")", x.rule(what), want[what]);
        }
    }

    private static void told() {
        TalkGrid x = new TalkGrid();
        Check.due("all lines", Check.rules(x, "talks 2 5; mixed no; chair yes; theme 1; room 120; gap 10; over cut; fill any;"), 8);
        rulesAre(x, 2, 5, 0, 1, 1, 120, 10, 0, 1);
        Check.due("fault(0)", x.fault(0), 0);
        Check.due("fault(1)", x.fault(1), -1);
        Check.due("fault(2)", x.fault(2), -1);
        Check.due("fault(-1)", x.fault(-1), -1);
        Check.due("other values", Check.rules(x, "fill\ntheme;over push;\n\nchair no;mixed yes;talks 6 6;"), 5);
        rulesAre(x, 6, 6, 1, 0, 8, 100, 5, 1, 0);
        Check.due("least blanks", Check.rules(x, "talks1 1;room001;gap00;theme8;"), 4);
        rulesAre(x, 1, 1, 1, 0, 8, 1, 0, 1, 0);
        Check.due("bounds", Check.rules(x, "room 200; gap 60; theme 8; talks 1 6;"), 4);
        rulesAre(x, 1, 6, 1, 0, 8, 200, 60, 1, 0);
    }

    private static void untoldAgain() {
        TalkGrid x = new TalkGrid();
        Check.due("gap", Check.rules(x, "gap 1;"), 1);
        Check.due("mixed", Check.rules(x, "mixed no;"), 1);
        rulesAre(x, 1, 4, 0, 0, 8, 100, 5, 1, 0);
        Check.due("empty", Check.rules(x, ""), 0);
        rulesAre(x, 1, 4, 1, 0, 8, 100, 5, 1, 0);
        Check.due("blanks", Check.rules(x, " \n "), 0);
    }

    private static void faultOf(String text, int kind, int place) {
        TalkGrid x = new TalkGrid();
        Check.due("rules of '" + text + "'", Check.rules(x, text), -1);
        Check.due("kind of '" + text + "'", x.fault(0), kind);
        Check.due("place of '" + text + "'", x.fault(1), place);
        Check.due("tape behind '" + text + "'", x.count(6), 0);
        rulesAre(x, 1, 4, 1, 0, 8, 100, 5, 1, 0);
    }

    private static void syntax() {
        faultOf(";", 1, 0);
        faultOf("  5", 1, 2);
        faultOf("gaps 5;", 1, 0);
        faultOf("ga 5;", 1, 0);
        faultOf("Gap 5;", 1, 0);
        faultOf("gap", 1, 3);
        faultOf("gap \n", 1, 5);
        faultOf("gap 5", 1, 5);
        faultOf("gap 5 ", 1, 6);
        faultOf("gap 5 5;", 1, 6);
        faultOf("gap ;", 1, 4);
        faultOf("gap five;", 1, 4);
        faultOf("gap 5;;", 1, 6);
        faultOf("gap 0005;", 1, 4);
        faultOf("gap 9999;", 1, 4);
        faultOf("gap\t5;", 1, 3);
        faultOf("gap 5\r;", 1, 5);
        faultOf("gap 5A;", 1, 5);
        faultOf("gap -5;", 1, 4);
        faultOf("talks 1;", 1, 7);
        faultOf("talks 1 2 3;", 1, 10);
        faultOf("mixed", 1, 5);
        faultOf("mixed 1;", 1, 6);
        faultOf("mixed cut;", 1, 6);
        faultOf("chair push;", 1, 6);
        faultOf("over yes;", 1, 5);
        faultOf("over any;", 1, 5);
        faultOf("fill cut;", 1, 5);
        faultOf("fill yesno;", 1, 5);
        faultOf("fill themegap 5;", 1, 5);
        faultOf("theme any;", 1, 6);
        faultOf("gap 5;\u0000", 1, 6);
        faultOf("gap 5;\u00ff", 1, 6);
        faultOf("gap 5; yes;", 1, 7);
    }

    private static void range() {
        faultOf("talks 0 4;", 2, 6);
        faultOf("talks 14;", 2, 6);
        faultOf("talks 7 7;", 2, 6);
        faultOf("talks 3 2;", 2, 8);
        faultOf("talks 3 7;", 2, 8);
        faultOf("talks 7", 2, 6);
        faultOf("theme 0;", 2, 6);
        faultOf("theme 9;", 2, 6);
        faultOf("room 0;", 2, 5);
        faultOf("room 201;", 2, 5);
        faultOf("gap 61;", 2, 4);
        faultOf("gap 999 nonsense", 2, 4);
        faultOf("gap61A", 2, 3);
    }

    private static void twice() {
        faultOf("gap 5;gap 61;", 3, 6);
        faultOf("gap 5; room 3;\n room", 3, 16);
        faultOf("fill theme; theme 3; fill", 3, 21);
        faultOf("gap 5; gap A", 3, 7);
        TalkGrid x = new TalkGrid();
        Check.due("theme behind fill", Check.rules(x, "fill theme; theme 3;"), 2);
    }

    private static void rulesStay() {
        TalkGrid x = new TalkGrid();
        Check.due("gap 9", Check.rules(x, "gap 9; talks 2 3;"), 2);
        Check.due("a fault", Check.rules(x, "gap 8; talks 5 3;"), -1);
        rulesAre(x, 2, 3, 1, 0, 8, 100, 9, 1, 0);
        Check.due("kind", x.fault(0), 2);
        Check.due("place", x.fault(1), 15);
        Check.due("none again", Check.rules(x, "gap 9;"), 1);
        Check.due("kind", x.fault(0), 0);
        Check.due("place", x.fault(1), -1);
        rulesAre(x, 1, 4, 1, 0, 8, 100, 9, 1, 0);
    }

    private static void randomTexts() {
        Random random = new Random(11);
        String[] parts = {"talks ", "mixed ", "chair ", "theme ", "room ", "gap ", "over ", "fill ", "yes", "no", "cut",
            "push", "theme", "any", "1 ", "2 ", "3 ", "6 ", "7 ", "8 ", "60", "61", "200", "201", "0", "1000", ";", ";",
            " ", "\n", "A", "x"};
        String[] good = {"talks 2 3;", "talks 4 2;", "mixed no;", "chair yes;", "theme 3;", "room 80;", "gap 0;",
            "over cut;", "fill any;", "fill theme;", "gap 61;", "room 0;"};
        for (int run = 0; run < 20000; run++) {
            StringBuilder text = new StringBuilder();
            int lines = random.nextInt(7);
            for (int i = 0; i < lines; i++) {
                text.append(good[random.nextInt(good.length)]);
            }
            int changes = random.nextInt(3);
            for (int i = 0; i < changes; i++) {
                int at = random.nextInt(text.length() + 1);
                text.insert(at, parts[random.nextInt(parts.length)]);
            }
            NaiveRules want = new NaiveRules(text.toString());
            TalkGrid x = new TalkGrid();
            Check.due("rules of '" + text + "'", Check.rules(x, text.toString()), want.lines);
            Check.due("kind of '" + text + "'", x.fault(0), want.kind);
            Check.due("place of '" + text + "'", x.fault(1), want.place);
            rulesAre(x, want.values);
        }
    }
}
