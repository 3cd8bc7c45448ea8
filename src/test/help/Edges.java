import java.nio.charset.StandardCharsets;
import java.util.Arrays;

/** What the tests of the document's sentences share: each edge() belongs to one sentence, quoted word for word. */
abstract class Edges {
    static final int NO_INT = Integer.MIN_VALUE;
    static final long NO_LONG = Long.MIN_VALUE;
    /** Numbers that are far out of all bounds, where a sum would wrap around. */
    static final int[] FAR = {Integer.MIN_VALUE, Integer.MIN_VALUE + 1, Integer.MAX_VALUE - 1, Integer.MAX_VALUE};

    private static String sentence = "";
    private static int sentences = 0;
    private static int asked = 0;
    private static int wrong = 0;

    interface Run {
        void run();
    }

    /** A test of one sentence; part is a promise's number, a Term's, or "face". SentencesTest looks the words up. */
    static void edge(String part, String words, Run run) {
        sentence = part + " \"" + words + "\"";
        sentences++;
        int before = asked;
        run.run();
        if (asked == before) {
            wrong++;
            System.out.println(sentence + ": nothing was asked");
        }
    }

    static void finish() {
        System.out.println(sentences + " sentences, " + asked + " answers asked for");
        System.out.println(wrong == 0 ? "all answers are as due" : wrong + " answers are not as due");
        if (wrong != 0) {
            System.exit(1);
        }
    }

    // ---- answers

    static void due(String what, long got, long want) {
        asked++;
        if (got != want) {
            wrong++;
            System.out.println(sentence + ": " + what + " answered " + got + ", due is " + want);
        }
    }

    /** An answer, and the TROUBLE behind it. */
    static void due(BondCalendars x, String what, long got, long want, int trouble) {
        due(what, got, want);
        due("trouble() behind " + what, x.trouble(), trouble);
    }

    static void dueDouble(String what, long bits, double want) {
        asked++;
        if (bits != Double.doubleToLongBits(want)) {
            wrong++;
            System.out.println(sentence + ": " + what + " answered " + Double.longBitsToDouble(bits) + ", due is " + want);
        }
    }

    static void dueTrue(String what, boolean so) {
        due(what, so ? 1 : 0, 1);
    }

    static void dueRatio(String what, long upper, long lower, long dueUpper, long dueLower) {
        due(what + ", upper", upper, dueUpper);
        due(what + ", lower", lower, dueLower);
    }

    static double valueOf(long bits) {
        return Double.longBitsToDouble(bits);
    }

    // ---- texts

    static void put(BondCalendars x, String text) {
        byte[] bytes = text.getBytes(StandardCharsets.ISO_8859_1);
        byte[] all = Arrays.copyOf(bytes, (bytes.length + 19) / 20 * 20);
        for (int at = 0; at < all.length; at += 20) {
            int[] words = new int[5];
            for (int i = 0; i < 20; i++) {
                words[i / 4] = words[i / 4] << 8 | all[at + i] & 255;
            }
            x.feed(words[0], words[1], words[2], words[3], words[4]);
        }
    }

    static int tell(BondCalendars x, String text) {
        put(x, text);
        return x.desk(text.length());
    }

    /** A new object with a DESK of that text. */
    static BondCalendars of(String text) {
        BondCalendars x = new BondCalendars();
        int bonds = tell(x, text);
        if (bonds < 0) {
            due("desk(" + text + "), fault " + x.fault() + " at " + x.where(), bonds, 0);
        }
        return x;
    }

    static String number(int year, int month, int day) {
        return String.valueOf(year * 10000 + month * 100 + day);
    }

    /** A text without a FAULT, and how many bonds it has. */
    static void fine(String text, int bonds) {
        BondCalendars x = new BondCalendars();
        due(x, "desk(" + text + ")", tell(x, text), bonds, 0);
        due("fault() of " + text, x.fault(), 0);
        due("where() of " + text, x.where(), -1);
    }

    /** A text with a FAULT: its number, and its place. */
    static void fault(String text, int number, int place) {
        BondCalendars x = new BondCalendars();
        due(x, "desk(" + text + ")", tell(x, text), -1, 4);
        due("fault() of " + text, x.fault(), number);
        due("where() of " + text, x.where(), place);
    }

    /** A text whose FAULT is at the place where a sign stands (which is taken out of it). */
    static void faultAt(String marked, int number) {
        int place = marked.indexOf('^');
        fault(marked.substring(0, place) + marked.substring(place + 1), number, place);
    }
}
