import java.nio.charset.StandardCharsets;
import java.util.Set;
import java.util.TreeSet;

/** Counts the answers of one test that are and that are not as due. */
final class Check {
    static final String ANN_TO_DOT =
            "person ann 5 3;person bob 4 6;person cid 2 9 gloved;person dot 7 1;"
            + "deed sign 4 6 0;deed steal 6 9 4;deed dig 9 5 0 both;deed kiss 3 2 2;"
            + "sees ann bob;sees bob dot;sees cid ann;"
            + "fond ann bob 3;fond bob ann 5;fond ann dot 9;fond dot ann 1;fond bob dot 4;fond dot bob 2;"
            + "law 5;cell 2;ideas 1;";

    private int right;
    private int wrong;
    private Doc doc;
    private String sentence = "";
    private int sentences;
    private int ofSentence;
    private final Set<Integer> promised = new TreeSet<>();

    /** What follows is a test of this sentence of the document alone. */
    void says(String quote) {
        beginSentence(quote);
        due("it stands in the document", document().says(quote), true);
        ofSentence = 0;
    }

    /** As above, of a sentence under the heading of one promise. */
    void promises(int number, String quote) {
        beginSentence("promise " + number + ": " + quote);
        promised.add(number);
        due("it stands in the document", document().promises(number, quote), true);
        ofSentence = 0;
    }

    /** Each of these promises has had a sentence of its own tested. */
    void duePromises(int first, int last) {
        for (int number = first; number <= last; number++) {
            due("promise " + number + " is tested", promised.contains(number), true);
        }
    }

    private void beginSentence(String title) {
        endSentence();
        sentence = title;
        sentences++;
    }

    private void endSentence() {
        if (!sentence.isEmpty() && ofSentence == 0) {
            wrong++;
            System.out.println("[" + sentence + "] nothing tests it");
        }
    }

    private Doc document() {
        if (doc == null) {
            doc = new Doc();
        }
        return doc;
    }

    void due(String what, long got, long want) {
        ofSentence++;
        if (got == want) {
            right++;
        } else {
            wrong++;
            String title = sentence.isEmpty() ? "" : "[" + sentence + "] ";
            System.out.println(title + what + " answered " + got + ", due is " + want);
        }
    }

    void due(String what, boolean got, boolean want) {
        due(what, got ? 1 : 0, want ? 1 : 0);
    }

    /** Several answers of one call, as told by its arguments' order. */
    void dueRow(String what, int[] got, int... want) {
        due(what + " (how many)", got.length, want.length);
        for (int i = 0; i < want.length && i < got.length; i++) {
            due(what + " [" + i + "]", got[i], want[i]);
        }
    }

    void close(String name) {
        endSentence();
        String of = sentences > 0 ? " (of " + sentences + " sentences)" : "";
        System.out.println(name + ": " + right + " answers as due, " + wrong + " not" + of);
        if (wrong != 0) {
            System.exit(1);
        }
    }

    static void feed(LeftAnswers x, byte[] bytes) {
        int before = x.count(5);
        for (int i = 0; i < bytes.length; i += 20) {
            int[] five = new int[5];
            for (int k = 0; k < 20; k++) {
                int sign = i + k < bytes.length ? bytes[i + k] & 255 : 0;
                five[k / 4] = five[k / 4] << 8 | sign;
            }
            x.feed(five[0], five[1], five[2], five[3], five[4]);
        }
        x.end(before + bytes.length);
    }

    static void feed(LeftAnswers x, String text) {
        feed(x, text.getBytes(StandardCharsets.ISO_8859_1));
    }

    static void feed(LeftAnswers x, int... bytes) {
        byte[] row = new byte[bytes.length];
        for (int i = 0; i < bytes.length; i++) {
            row[i] = (byte) bytes[i];
        }
        feed(x, row);
    }

    static LeftAnswers duchyOf(String text) {
        LeftAnswers x = new LeftAnswers();
        duchy(x, text);
        return x;
    }

    static int duchy(LeftAnswers x, String text) {
        feed(x, text);
        return x.duchy();
    }

    static int book(LeftAnswers x, String text, int lives) {
        feed(x, text);
        return x.book(lives);
    }

    static int sentence(LeftAnswers x, String text) {
        feed(x, text);
        return x.sentence();
    }

    static int parted(LeftAnswers x, int... deeds) {
        feed(x, deeds);
        return x.parted();
    }

    static int fits(LeftAnswers x, int... pairs) {
        feed(x, pairs);
        return x.fits();
    }

    static String slip(LeftAnswers x, int p) {
        int length = x.slip(p);
        StringBuilder text = new StringBuilder();
        for (int i = 0; i < length; i++) {
            text.append((char) x.byteAt(i));
        }
        return text.toString();
    }

    static boolean throwsNoSuchElement(LeftAnswers x, int p, int what) {
        try {
            x.person(p, what);
            return false;
        } catch (java.util.NoSuchElementException e) {
            return true;
        }
    }
}
