import java.util.ArrayList;
import java.util.HashSet;
import java.util.List;
import java.util.Set;
import java.util.regex.Matcher;
import java.util.regex.Pattern;

/** The rules' text read another way: a row of patterns that each token must match in its turn. */
final class NaiveRules {
    private static final Pattern TOKEN = Pattern.compile("[a-z]+|[0-9]+|[^ \\n]", Pattern.DOTALL);

    int lines = 0;
    int kind = 0;
    int place = -1;
    int[] values = {1, 4, 1, 0, 8, 100, 5, 1, 0};

    NaiveRules(String text) {
        int[] told = values.clone();
        Set<String> seen = new HashSet<>();
        List<String> due = new ArrayList<>();
        String first = "";
        int rule = 0;
        Matcher tokens = TOKEN.matcher(text);
        while (tokens.find()) {
            String token = tokens.group();
            if (due.isEmpty()) {
                String turn = turnOf(token);
                if (turn.isEmpty()) {
                    fail(1, tokens.start());
                    return;
                }
                if (!seen.add(token)) {
                    fail(3, tokens.start());
                    return;
                }
                first = token;
                rule = List.of("talks", "", "mixed", "chair", "theme", "room", "gap", "over", "fill").indexOf(token);
                due.addAll(List.of(turn.split(" ")));
                continue;
            }
            String want = due.remove(0);
            if (!token.matches(want)) {
                fail(1, tokens.start());
                return;
            }
            if (token.equals(";")) {
                lines++;
            } else if (token.matches("[0-9]+")) {
                int n = Integer.parseInt(token);
                int least = first.equals("gap") ? 0 : rule == 1 ? told[0] : 1;
                int most = first.equals("talks") ? 6 : first.equals("theme") ? 8 : first.equals("room") ? 200 : 60;
                if (n < least || n > most) {
                    fail(2, tokens.start());
                    return;
                }
                told[rule++] = n;
            } else {
                told[rule] = List.of("yes", "push", "any").contains(token) ? 1 : 0;
            }
        }
        if (!due.isEmpty()) {
            fail(1, text.length());
            return;
        }
        values = told;
    }

    private void fail(int itsKind, int itsPlace) {
        kind = itsKind;
        place = itsPlace;
        lines = -1;
    }

    private static String turnOf(String word) {
        switch (word) {
            case "talks":
                return "[0-9]{1,3} [0-9]{1,3} ;";
            case "theme":
            case "room":
            case "gap":
                return "[0-9]{1,3} ;";
            case "mixed":
            case "chair":
                return "yes|no ;";
            case "over":
                return "cut|push ;";
            case "fill":
                return "theme|any ;";
            default:
                return "";
        }
    }
}
