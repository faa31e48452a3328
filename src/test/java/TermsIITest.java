import java.util.List;

/** Terms II, sentence by sentence: the tape, the rules' text and its faults, sessions and what is wrong with them. */
public final class TermsIITest {
    private static final int[] UNTOLD = {1, 4, 1, 0, 8, 100, 5, 1, 0};
    private static final String[] FIRST_WORDS = {"talks", "mixed", "chair", "theme", "room", "gap", "over", "fill"};
    private static final String[] LINES = {"talks 2 3;", "mixed no;", "chair yes;", "theme 7;", "room 99;", "gap 4;",
        "over cut;", "fill any;"};

    public static void main(String[] args) {
        tape();
        blanks();
        words();
        numbers();
        signs();
        lines();
        untold();
        bounds();
        places();
        firstFault();
        leastKind();
        syntax();
        rangeAndTwice();
        sessions();
        themesAndEars();
        people();
        wrong();
        Check.finish();
    }

    private static void faultOf(String text, int kind, int place) {
        TalkGrid x = new TalkGrid();
        Check.due("rules of '" + text + "'", Check.rules(x, text), -1);
        Check.due("kind of '" + text + "'", x.fault(0), kind);
        Check.due("place of '" + text + "'", x.fault(1), place);
        rulesAre(text, x, UNTOLD);
    }

    private static void rulesAre(String text, TalkGrid x, int... want) {
        for (int what = 0; what < want.length; what++) {
            Check.due("rule(" + what + ") of '" + text + "'", x.rule(what), want[what]);
        }
    }

    /** The text is so many lines and tells one rule so. */
    private static void goes(String text, int lines, int what, int value) {
        TalkGrid x = new TalkGrid();
        Check.due("rules of '" + text + "'", Check.rules(x, text), lines);
        Check.due("kind of '" + text + "'", x.fault(0), 0);
        Check.due("place of '" + text + "'", x.fault(1), -1);
        Check.due("rule(" + what + ") of '" + text + "'", x.rule(what), value);
    }

    private static void tape() {
        Check.sentence("THE TAPE has at most 400 bytes.");
        TalkGrid x = new TalkGrid();
        for (int n = 20; n <= 400; n += 20) {
            Check.due("feed to " + n, Check.feedBlanks(x), n);
        }
        Check.due("feed beyond 400", Check.feedBlanks(x), -3);
        Check.due("end(399)", x.end(399), 399);
        Check.due("feed beyond 400", Check.feedBlanks(x), -3);
        Check.due("end(381)", x.end(381), 381);
        Check.due("feed to 401", Check.feedBlanks(x), -3);
        Check.due("end(380)", x.end(380), 380);
        Check.due("feed to 400", Check.feedBlanks(x), 400);
        Check.due("a text of 400 bytes", x.rules(), 0);
        goes(" ".repeat(394) + "gap 9;", 1, 6, 9);
        goes("gap 9;" + "\n".repeat(394), 1, 6, 9);
        goes("gap" + "\n".repeat(395) + "9;", 1, 6, 9);
        faultOf("gap" + " ".repeat(396) + "9", 1, 400);
    }

    private static void blanks() {
        Check.sentence("RULES' text: TOKENS with any blanks (32, 10) between:");
        goes("gap7;room9;", 2, 5, 9);
        goes("gap 7;room 9;", 2, 6, 7);
        goes("  gap \n\n 7 \n;\n room\n9 ; ", 2, 5, 9);
        goes("\n", 0, 6, 5);
        goes(" ", 0, 6, 5);
        goes("talks1 6;", 1, 1, 6);
        goes("talks 1\n6;", 1, 1, 6);
        faultOf("mixedno;", 1, 0);
        for (int sign = 0; sign < 256; sign++) {
            boolean blank = sign == 32 || sign == 10;
            if (blank) {
                goes("gap" + (char) sign + "7;", 1, 6, 7);
            } else if (sign < '0' || sign > '9' && sign < 'a' || sign > 'z') {
                faultOf("gap" + (char) sign + "7;", 1, 3);
            }
        }
    }

    private static void words() {
        Check.sentence("WORDS (small letters, as many as there are),");
        for (int sign = 0; sign < 256; sign++) {
            if (sign >= 'a' && sign <= 'z') {
                faultOf("gap" + (char) sign + " 7;", 1, 0);
                faultOf((char) sign + "gap 7;", 1, 0);
                faultOf("mixed no" + (char) sign + ";", 1, 6);
                faultOf("mixed " + (char) sign + "no;", 1, 6);
            } else if (sign != 32 && sign != 10 && sign != ';') {
                faultOf("mixed no" + (char) sign + ";", 1, 8);
                faultOf("mixed " + (char) sign + "no;", 1, 6);
            }
        }
        for (String line : LINES) {
            for (int i = 0; i < line.length(); i++) {
                if (Character.isLetter(line.charAt(i))) {
                    String other = line.substring(0, i) + (line.charAt(i) == 'q' ? 'z' : 'q') + line.substring(i + 1);
                    faultOf(other, 1, other.lastIndexOf(' ', i) + 1);
                }
            }
        }
        faultOf("gapgap 7;", 1, 0);
        faultOf("ga p 7;", 1, 0);
        faultOf("GAP 7;", 1, 0);
        faultOf("gap 7;roo 7;", 1, 6);
        faultOf("a".repeat(400), 1, 0);
        faultOf("gap 7;" + "z".repeat(394), 1, 6);
    }

    private static void numbers() {
        Check.sentence("N (digits, as many as there are, 3 at most),");
        goes("gap 0;", 1, 6, 0);
        goes("gap 7;", 1, 6, 7);
        goes("gap 07;", 1, 6, 7);
        goes("gap 007;", 1, 6, 7);
        goes("room 123;", 1, 5, 123);
        faultOf("gap 0007;", 1, 4);
        faultOf("gap 0000;", 1, 4);
        faultOf("room 1234;", 1, 5);
        faultOf("gap " + "0".repeat(396), 1, 4);
        faultOf("talks 16;", 2, 6);
        faultOf("talks 0001 6;", 1, 6);
        faultOf("talks 1 0006;", 1, 8);
        goes("talks 001 006;", 1, 1, 6);
        for (int sign = 0; sign < 256; sign++) {
            if (sign >= '0' && sign <= '9') {
                goes("gap" + (char) sign + ";", 1, 6, sign - '0');
                goes("gap 1" + (char) sign + ";", 1, 6, 10 + sign - '0');
            } else if (sign != 32 && sign != 10 && sign != ';') {
                faultOf("gap 1" + (char) sign + ";", 1, 5);
            }
        }
    }

    private static void signs() {
        Check.sentence("; .");
        for (int sign = 0; sign < 256; sign++) {
            if (sign == ';') {
                goes("gap 7" + (char) sign, 1, 6, 7);
            } else if (sign == 32 || sign == 10) {
                faultOf("gap 7" + (char) sign, 1, 6);
            } else if (sign < '0' || sign > '9') {
                faultOf("gap 7" + (char) sign, 1, 5);
            }
        }
        faultOf("gap 7;;", 1, 6);
        faultOf(";", 1, 0);
        faultOf("gap;", 1, 3);
    }

    private static void lines() {
        Check.sentence("text = {line \";\"}.");
        goes("", 0, 0, 1);
        goes("gap 7;", 1, 6, 7);
        goes("fill any;over cut;gap 4;room 99;theme 7;chair yes;mixed no;talks 2 3;", 8, 1, 3);
        faultOf("gap 7", 1, 5);
        faultOf("gap 7 room 8;", 1, 6);
        faultOf("gap 7; room 8", 1, 13);
        Check.sentence("line = \"talks\" N N | \"mixed\" (\"yes\" | \"no\") | \"chair\" (\"yes\" | \"no\") | \"theme\" N "
                + "| \"room\" N | \"gap\" N | \"over\" (\"cut\" | \"push\") | \"fill\" (\"theme\" | \"any\").");
        List<List<String>> second = List.of(List.of("1"), List.of("yes", "no"), List.of("yes", "no"), List.of("1"),
                List.of("1"), List.of("1"), List.of("cut", "push"), List.of("theme", "any"));
        String[] tokens = {"talks", "mixed", "chair", "theme", "room", "gap", "over", "fill", "yes", "no", "cut", "push",
            "any", "ye", "anyy", "1", ";", ""};
        for (int line = 0; line < 8; line++) {
            String first = FIRST_WORDS[line];
            for (String token : tokens) {
                String text = first + " " + token;
                if (!second.get(line).contains(token)) {
                    faultOf(text, 1, first.length() + 1);
                } else if (line == 0) {
                    faultOf(text, 1, text.length());
                    faultOf(text + ";", 1, text.length());
                    faultOf(text + " yes;", 1, text.length() + 1);
                    goes(text + " 1;", 1, 1, 1);
                    faultOf(text + " 1 1;", 1, text.length() + 3);
                } else {
                    Check.due(text + ";", Check.rules(new TalkGrid(), text + ";"), 1);
                    faultOf(text, 1, text.length());
                    faultOf(text + " 1;", 1, text.length() + 1);
                    faultOf(text + " yes;", 1, text.length() + 1);
                }
            }
        }
        for (String token : tokens) {
            if (!List.of(FIRST_WORDS).contains(token) && !token.isEmpty()) {
                faultOf(token, 1, 0);
                faultOf("room 8; " + token, 1, 8);
            }
        }
        int[][] told = {{2, 0}, {2, 1}, {3, 0}, {3, 1}, {7, 0}, {7, 1}, {8, 0}, {8, 1}};
        String[] texts = {"mixed no;", "mixed yes;", "chair no;", "chair yes;", "over cut;", "over push;", "fill theme;",
            "fill any;"};
        for (int i = 0; i < texts.length; i++) {
            goes(texts[i], 1, told[i][0], told[i][1]);
        }
    }

    private static void untold() {
        Check.sentence("What a text doesn't tell is so: talks 1 4, mixed yes, chair no, theme 8, room 100, gap 5, over push, "
                + "fill theme.");
        int[] told = {2, 3, 0, 1, 7, 99, 4, 0, 1};
        for (int line = 0; line < 8; line++) {
            StringBuilder others = new StringBuilder();
            int[] one = UNTOLD.clone();
            int[] rest = told.clone();
            for (int l = 0; l < 8; l++) {
                others.append(l == line ? "" : LINES[l]);
            }
            for (int what = line == 0 ? 0 : line + 1; what <= line + 1; what++) {
                one[what] = told[what];
                rest[what] = UNTOLD[what];
            }
            TalkGrid x = new TalkGrid();
            Check.due("one line", Check.rules(x, LINES[line]), 1);
            rulesAre(LINES[line], x, one);
            Check.due("all but one", Check.rules(x, others.toString()), 7);
            rulesAre(others.toString(), x, rest);
            Check.due("no line", Check.rules(x, ""), 0);
            rulesAre("", x, UNTOLD);
        }
    }

    /** Of all numbers from 0 to 999 those between the bounds are told, and all others are out of them. */
    private static void numbersOf(String ahead, String behind, int what, int least, int most) {
        for (int n = 0; n < 1000; n++) {
            String text = ahead + n + behind;
            if (n >= least && n <= most) {
                goes(text, 1, what, n);
            } else {
                faultOf(text, 2, ahead.length());
            }
        }
    }

    private static void bounds() {
        Check.sentence("Bounds: talks 1 .. 6");
        numbersOf("talks ", " 6;", 0, 1, 6);
        numbersOf("talks 1 ", ";", 1, 1, 6);
        Check.sentence("(the second not below the first),");
        for (int from = 2; from <= 6; from++) {
            numbersOf("talks " + from + " ", ";", 1, from, 6);
        }
        Check.sentence("theme 1 .. 8,");
        numbersOf("theme ", ";", 4, 1, 8);
        Check.sentence("room 1 .. 200,");
        numbersOf("room ", ";", 5, 1, 200);
        Check.sentence("gap 0 .. 60.");
        numbersOf("gap ", ";", 6, 0, 60);
    }

    private static void places() {
        Check.sentence("FAULTS: KIND and PLACE (a TOKEN's first byte;");
        faultOf("abc", 1, 0);
        faultOf("\n \nabc", 1, 3);
        faultOf("gap 123;", 2, 4);
        faultOf("gap    123;", 2, 7);
        faultOf("gap 12; gap 12;", 3, 8);
        faultOf("gap 12;\n\n\ngap 12;", 3, 10);
        Check.sentence("the text's length at its end),");
        faultOf("gap", 1, 3);
        faultOf("gap   ", 1, 6);
        faultOf("gap 7", 1, 5);
        faultOf("gap 7\n\n", 1, 7);
        faultOf("talks 1", 1, 7);
        faultOf("gap 7; room 8; mixed", 1, 20);
        faultOf("gap 7; room 8; mixed ", 1, 21);
    }

    private static void firstFault() {
        Check.sentence("the first come to as TOKENS are read one by one,");
        faultOf("gap 61 61;", 2, 4);
        faultOf("gap 61; abc", 2, 4);
        faultOf("abc; gap 61;", 1, 0);
        faultOf("gap 7; gap 61;", 3, 7);
        faultOf("gap 7; room 0; gap 8;", 2, 12);
        faultOf("gap 7; gap", 3, 7);
        faultOf("gap 61", 2, 4);
        faultOf("talks 0 7;", 2, 6);
        faultOf("talks 6 5 4;", 2, 8);
        faultOf("talks 0", 2, 6);
        faultOf("gap 7!; gap 8;", 1, 5);
        faultOf("gap 7 gap 8;", 1, 6);
    }

    private static void leastKind() {
        Check.sentence("of one TOKEN the least KIND:");
        faultOf("gap 1000;", 1, 4);
        faultOf("room 8; gap 7 8; gap", 1, 14);
        faultOf("gap 5 61;", 1, 6);
        faultOf("gap 7; room gap;", 1, 12);
        faultOf("gap gap 7;", 1, 4);
        faultOf("gap 7 gap;", 1, 6);
    }

    private static void syntax() {
        Check.sentence("1 SYNTAX: a TOKEN");
        faultOf("seven;", 1, 0);
        faultOf("gap seven;", 1, 4);
        faultOf("gap 7 seven;", 1, 6);
        faultOf("gap 7; 7;", 1, 7);
        Check.sentence("(or byte that is none,");
        for (int sign = 0; sign < 256; sign++) {
            if (sign != 32 && sign != 10) {
                faultOf((sign == ';' ? "" : " ") + (char) sign, 1, sign == ';' ? 0 : 1);
            }
        }
        faultOf("gap 7;\u00a0", 1, 6);
        faultOf("gap 7;\u0000", 1, 6);
        faultOf("gap +7;", 1, 4);
        Check.sentence("a run that is too long)");
        faultOf("gap 0060;", 1, 4);
        faultOf("gap 7; room 1000;", 1, 12);
        faultOf("1000", 1, 0);
        faultOf("gap 7 1000;", 1, 6);
        Check.sentence("with which no text goes on.");
        faultOf("talks 1 yes", 1, 8);
        faultOf("talks 1 2 ,", 1, 10);
        faultOf("over fill", 1, 5);
    }

    private static void rangeAndTwice() {
        Check.sentence("2 RANGE: an N out of its bounds.");
        faultOf("talks 7 7;", 2, 6);
        faultOf("talks 4 3;", 2, 8);
        faultOf("theme 0;", 2, 6);
        faultOf("theme 9;", 2, 6);
        faultOf("room 0;", 2, 5);
        faultOf("room 201;", 2, 5);
        faultOf("gap 61;", 2, 4);
        faultOf("gap 999;", 2, 4);
        Check.sentence("3 TWICE: a line's first WORD that was told already.");
        for (int line = 0; line < 8; line++) {
            faultOf(LINES[line] + FIRST_WORDS[line], 3, LINES[line].length());
            String between = LINES[(line + 3) % 8];
            faultOf(LINES[line] + between + LINES[line], 3, LINES[line].length() + between.length());
            TalkGrid x = new TalkGrid();
            Check.due("told by the text of before", Check.rules(x, LINES[line]), 1);
            Check.due("told again by another text", Check.rules(x, LINES[line]), 1);
            Check.due("a text with a fault", Check.rules(x, LINES[line] + ";"), -1);
            Check.due("told again behind it", Check.rules(x, LINES[line]), 1);
        }
        goes("fill theme; theme 3;", 2, 4, 3);
        goes("theme 3; fill theme;", 2, 4, 3);
        goes("mixed yes; chair yes;", 2, 3, 1);
    }

    private static void sessions() {
        Check.sentence("SESSIONS 0 .. 7, opened with a chair, KEYNOTE or not:");
        Check.bounds("open", 0, 7, (x, s) -> x.open(s, 1, false));
        TalkGrid x = new TalkGrid();
        for (int s = 0; s < 8; s++) {
            Check.due("open " + s, x.open(s, 39 - s, s % 2 == 0), 1);
        }
        for (int s = 0; s < 8; s++) {
            Check.due("chair of " + s, x.session(s, 2), 39 - s);
            Check.due("keynote " + s, x.session(s, 6), 1 - s % 2);
        }
        Check.due("all eight are open", x.count(2), 8);
        Check.sentence("up to 6 TALKS in a row,");
        for (int t = 0; t < 14; t++) {
            x.talk(0, 10, 10, t, -1, -1);
        }
        for (int t = 0; t < 6; t++) {
            Check.due("put " + t, x.put(0, 5 - t), t + 1);
        }
        Check.due("the seventh", x.put(0, 6), -3);
        for (int i = 0; i < 6; i++) {
            Check.due("in a row " + i, x.session(0, 10 + i), 5 - i);
        }
        Check.due("behind the row", x.session(0, 16), -1);
        Check.sentence("each TALK in one SESSION at most.");
        Check.due("in another one", x.put(1, 3), -4);
        Check.due("in its own", x.put(0, 3), -4);
        x.put(1, 6);
        Check.due("in its own, which isn't full", x.put(1, 6), -4);
        x.shut(0);
        Check.due("in none any more", x.put(1, 3), 2);
    }

    private static TalkGrid withOpen(int chair) {
        TalkGrid x = new TalkGrid();
        x.open(3, chair, false);
        return x;
    }

    private static void themesAndEars() {
        TalkGrid x = withOpen(30);
        x.talk(7, 10, 20, 1, -1, -1);
        x.talk(0, 10, 30, 2, -1, -1);
        x.talk(3, 10, 10, 3, -1, -1);
        int[] themes = {-1, 7, 7, 7};
        int[] ears = {0, 20, 30, 30};
        for (int n = 0; n <= 3; n++) {
            Check.sentence("Its THEME is that of its first TALK (none without),");
            Check.due("theme with " + n, x.session(3, 3), themes[n]);
            Check.sentence("its EARS the most of its TALKS (0 without);");
            Check.due("ears with " + n, x.session(3, 4), ears[n]);
            x.put(3, n);
        }
        x.fallOut(0);
        Check.due("theme of what is the first now", x.session(3, 3), 0);
        x.fallOut(1);
        Check.due("theme of what is the first now", x.session(3, 3), 3);
        Check.due("ears of what is left", x.session(3, 4), 10);
        x.fallOut(2);
        Check.due("theme without talks again", x.session(3, 3), -1);
        Check.due("ears without talks again", x.session(3, 4), 0);
    }

    private static void people() {
        Check.sentence("its PEOPLE are its chair and all speakers.");
        for (int p = 0; p < 8; p++) {
            TalkGrid x = withOpen(0);
            x.talk(0, 10, 10, 1, 2, 3);
            x.talk(0, 10, 10, 4, 5, 6);
            x.put(3, 0);
            x.put(3, 1);
            x.open(4, p, false);
            for (int r = 0; r < 6; r++) {
                x.room(r, 100);
            }
            Check.due("beside one that " + p + " chairs", x.plan(), p == 7 ? 0 : -1);
            x.shut(4);
            x.open(4, 8, false);
            x.talk(0, 10, 10, 9, p, -1);
            x.put(4, 2);
            Check.due("beside one in which " + p + " speaks", x.plan(), p == 7 ? 0 : -1);
        }
    }

    private static void wrong() {
        Check.sentence("What is WRONG with it, bits:");
        TalkGrid x = withOpen(0);
        for (int t = 0; t < 6; t++) {
            x.talk(t % 2, 10, 10, t, -1, -1);
        }
        x.put(3, 0);
        x.put(3, 1);
        Check.due("nothing", ruled(x, "chair yes;"), 0);
        Check.due("1", ruled(x, "chair yes; talks 3 3;"), 1);
        Check.due("2", ruled(x, "chair yes; mixed no;"), 2);
        Check.due("4", ruled(x, "chair no;"), 4);
        Check.due("1 and 2", ruled(x, "chair yes; talks 1 1; mixed no;"), 3);
        Check.due("1 and 4", ruled(x, "talks 1 1;"), 5);
        Check.due("2 and 4", ruled(x, "mixed no;"), 6);
        Check.due("all", ruled(x, "talks 1 1; mixed no;"), 7);

        Check.sentence("1 not from .. to TALKS;");
        for (int from = 1; from <= 6; from++) {
            for (int to = from; to <= 6; to++) {
                TalkGrid y = withOpen(30);
                Check.rules(y, "talks " + from + " " + to + ";");
                for (int n = 0; n <= 6; n++) {
                    Check.due(n + " talks, " + from + " .. " + to, y.session(3, 5), n < from || n > to ? 1 : 0);
                    y.put(3, y.talk(0, 10, 10, n, -1, -1));
                }
            }
        }

        Check.sentence("2 unlike THEMES, and mixed is no;");
        for (int odd = 0; odd < 4; odd++) {
            TalkGrid y = withOpen(30);
            for (int t = 0; t < 4; t++) {
                y.put(3, y.talk(t == odd ? 7 : 0, 10, 10, t, -1, -1));
            }
            Check.due("mixed is yes", y.session(3, 5), 0);
            Check.due("unlike at " + odd, ruled(y, "mixed no;"), 2);
            y.fallOut(odd);
            Check.due("the unlike one fell out", y.session(3, 5), 0);
        }
        Check.due("no talks, mixed no", ruled(withOpen(30), "mixed no;"), 1);

        Check.sentence("4 its chair speaks in it, and chair is no.");
        for (int chair = 0; chair < 8; chair++) {
            TalkGrid y = withOpen(chair);
            y.put(3, y.talk(0, 10, 10, 1, 2, 3));
            y.put(3, y.talk(0, 10, 10, 4, 5, 6));
            Check.due("chair " + chair, y.session(3, 5), chair == 0 || chair == 7 ? 0 : 4);
            Check.due("chair is yes, " + chair, ruled(y, "chair yes;"), 0);
        }
    }

    private static int ruled(TalkGrid x, String text) {
        Check.that(text, Check.rules(x, text) > 0);
        return x.session(3, 5);
    }
}
