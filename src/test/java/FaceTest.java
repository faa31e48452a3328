import java.lang.reflect.Constructor;
import java.lang.reflect.Field;
import java.lang.reflect.Method;
import java.lang.reflect.Modifier;
import java.util.Set;
import java.util.TreeSet;

/** The public face, and promise 1: a new object. */
public final class FaceTest {
    private static final String[] METHODS = {
        "int feed(int,int,int,int,int)", "int end(int)", "int house(int,int)", "int talk(int,int,int,int,int,int)",
        "int mark(int,int,int)", "int score(int,int)", "int ranked(int)", "int rules()", "int fault(int)",
        "int rule(int)", "int open(int,int,boolean)", "int shut(int)", "int put(int,int)", "int fallOut(int)",
        "int fill(int)", "int session(int,int)", "int slots(int)", "int room(int,int)", "int wish(int,int,int)",
        "int plan()", "int print()", "int mend()", "int laid(int,int)", "int over(int,int)", "int day(int,int,int)",
        "int count(int)"};

    public static void main(String[] args) {
        face();
        newObject();
        Check.finish();
    }

    private static void face() {
        Check.that("public final", Modifier.toString(TalkGrid.class.getModifiers()).equals("public final"));
        Set<String> methods = new TreeSet<>();
        Set<String> privates = new TreeSet<>();
        for (Method m : TalkGrid.class.getDeclaredMethods()) {
            if (Modifier.isPrivate(m.getModifiers())) {
                privates.add(m.getName());
            } else {
                StringBuilder shape = new StringBuilder(m.getReturnType() + " " + m.getName() + "(");
                for (Class<?> type : m.getParameterTypes()) {
                    shape.append(shape.charAt(shape.length() - 1) == '(' ? "" : ",").append(type);
                }
                methods.add(shape.append(")").toString());
                Check.that(m + " is public", Modifier.toString(m.getModifiers()).equals("public"));
            }
        }
        Check.that("methods " + methods, methods.equals(new TreeSet<>(Set.of(METHODS))));
        for (String shape : METHODS) {
            String name = shape.substring(4, shape.indexOf('('));
            Check.that("no private " + name, !privates.contains(name));
        }
        Constructor<?>[] made = TalkGrid.class.getDeclaredConstructors();
        Check.due("constructors", made.length, 1);
        Check.that("a public one", Modifier.isPublic(made[0].getModifiers()) && made[0].getParameterCount() == 0);
        Set<String> fields = new TreeSet<>();
        for (Field f : TalkGrid.class.getDeclaredFields()) {
            if (!Modifier.isPrivate(f.getModifiers())) {
                fields.add(f.getName());
                Check.that(f.toString(), Modifier.toString(f.getModifiers()).equals("public static final"));
            }
            Check.that(f + " is final", Modifier.isFinal(f.getModifiers()));
        }
        Check.that("constants " + fields, fields.equals(new TreeSet<>(Set.of("NONE", "RANGE", "FULL", "STATE"))));
        Check.due("NONE", TalkGrid.NONE, -1);
        Check.due("RANGE", TalkGrid.RANGE, -2);
        Check.due("FULL", TalkGrid.FULL, -3);
        Check.due("STATE", TalkGrid.STATE, -4);
    }

    private static void newObject() {
        TalkGrid x = new TalkGrid();
        int[] counts = {0, 0, 0, 1, 0, -1, 0, -1};
        for (int what = 0; what < counts.length; what++) {
            Check.due("count(" + what + ")", x.count(what), counts[what]);
        }
        Check.due("count(-1)", x.count(-1), -1);
        int[] rules = {1, 4, 1, 0, 8, 100, 5, 1, 0, -9};
        for (int what = 0; what < rules.length; what++) {
            Check.due("rule(" + what + ")", x.rule(what), rules[what]);
        }
        Check.due("rule(-1)", x.rule(-1), -9);
        Check.due("fault(0)", x.fault(0), 0);
        Check.due("fault(1)", x.fault(1), -1);
        for (int r = 0; r < 6; r++) {
            Check.due("room(" + r + ", 0)", x.room(r, 0), 0);
        }
        for (int p = 0; p < 40; p++) {
            Check.due("house(" + p + ", 0)", x.house(p, 0), 0);
        }
        for (int s = 0; s < 8; s++) {
            Check.due("session(" + s + ", 0)", x.session(s, 0), 0);
            for (int what = 0; what < 4; what++) {
                Check.due("laid(" + s + ", " + what + ")", x.laid(s, what), -1);
            }
        }
        Check.due("ranked(0)", x.ranked(0), -1);
        Check.due("print()", x.print(), -4);
        Check.due("mend()", x.mend(), -4);
        Check.due("slots(1)", x.slots(1), 1);
    }
}
