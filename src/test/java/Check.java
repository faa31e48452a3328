import java.nio.charset.StandardCharsets;
import java.util.Arrays;
import java.util.function.BiFunction;

/** What all tests of the project share: due answers, and texts fed to the tape. */
final class Check {
    private static int wrong = 0;
    private static String sentence = "";

    private Check() {
    }

    /** The words of the document that the answers due from here on follow from; SentencesTest reads them too. */
    static void sentence(String words) {
        sentence = "[" + words + "] ";
    }

    static void due(String call, long got, long want) {
        if (got != want) {
            wrong++;
            if (wrong <= 50) {
                System.out.println(sentence + call + " answered " + got + ", due is " + want);
            }
        }
    }

    static void that(String what, boolean holds) {
        due(what + " (1 = so)", holds ? 1 : 0, 1);
    }

    /** The last values that are taken and the first ones that are RANGE, on either side, each on a new object. */
    static void bounds(String call, int least, int most, BiFunction<TalkGrid, Integer, Integer> one) {
        for (int n : new int[] {least, most}) {
            that(call + " takes " + n, one.apply(new TalkGrid(), n) >= 0);
        }
        for (int n : new int[] {least - 1, most + 1, Integer.MIN_VALUE, Integer.MAX_VALUE}) {
            due(call + " with " + n, one.apply(new TalkGrid(), n), TalkGrid.RANGE);
        }
    }

    static void finish() {
        System.out.println(wrong == 0 ? "all answers are as due" : wrong + " answers are not as due");
        if (wrong != 0) {
            System.exit(1);
        }
    }

    /** Puts the text behind an empty tape. */
    static void feed(TalkGrid x, String text) {
        byte[] bytes = text.getBytes(StandardCharsets.ISO_8859_1);
        for (int i = 0; i < bytes.length; i += 20) {
            int[] words = words(Arrays.copyOfRange(bytes, i, i + 20));
            x.feed(words[0], words[1], words[2], words[3], words[4]);
        }
        due("end of '" + text + "'", x.end(bytes.length), bytes.length);
    }

    static int[] words(byte[] twenty) {
        int[] words = new int[5];
        for (int i = 0; i < 20; i++) {
            words[i / 4] = words[i / 4] << 8 | twenty[i] & 255;
        }
        return words;
    }

    static int rules(TalkGrid x, String text) {
        feed(x, text);
        return x.rules();
    }

    /** Twenty blanks behind the tape. */
    static int feedBlanks(TalkGrid x) {
        return x.feed(0x20202020, 0x20202020, 0x20202020, 0x20202020, 0x20202020);
    }
}
