import java.nio.charset.StandardCharsets;
import java.util.NoSuchElementException;
import java.util.Random;

/** All promises: random runs of calls on the class and on Model, each answer compared. */
public final class OracleTest {
    private static final int RUNS = 1500;
    private static final int CALLS = 512;
    private static final String[] NAMES = {"ann", "bob", "cid", "dot", "eve", "fay", "gus", "hal"};
    private static final String[] DEEDS = {"sign", "steal", "dig", "kiss", "hop", "lie", "row", "sew", "tax"};
    private static final String[] WORDS = Model.KEYWORDS.stream().sorted().toArray(String[]::new);

    private final Random random;
    private final LeftAnswers x = new LeftAnswers();
    private final Model model = new Model();
    private final StringBuilder story = new StringBuilder();
    private int calls;

    private OracleTest(long seed) {
        random = new Random(seed);
    }

    public static void main(String[] args) {
        int runs = args.length > 0 ? Integer.parseInt(args[0]) : RUNS;
        int first = args.length > 1 ? Integer.parseInt(args[1]) : 0;
        Check check = new Check();
        for (int seed = first; seed < first + runs; seed++) {
            OracleTest run = new OracleTest(seed);
            String wrong = run.go();
            if (wrong != null) {
                System.out.println("seed " + seed + ": " + wrong + "\n" + run.story);
            }
            check.due("run " + seed, wrong == null, true);
            if (wrong != null) {
                break;
            }
        }
        check.close("OracleTest");
    }

    private String go() {
        String wrong = text(duchyText());
        if (wrong == null) {
            wrong = compare("duchy");
        }
        while (wrong == null && calls < CALLS) {
            wrong = step();
        }
        return wrong;
    }

    private int any(int n) {
        return random.nextInt(n);
    }

    private boolean rarely(int n) {
        return any(n) == 0;
    }

    private <T> T pick(T[] from) {
        return from[any(from.length)];
    }

    /** An index that is mostly there, and sometimes just or far beside. */
    private int index(int n) {
        if (rarely(60)) {
            return random.nextInt();
        }
        return rarely(12) ? any(n + 4) - 2 : any(Math.max(1, n));
    }

    private String step() {
        int p = index(x.count(0));
        int d = index(x.count(1));
        switch (any(30)) {
            case 0: return rarely(3) ? newDuchy() : both("fault");
            case 1: case 2: case 3: case 4: case 5: case 6: return compare("does", p, d, index(3));
            case 7: case 8: return compare("wed", p, index(x.count(0)));
            case 9: return compare("part", p);
            case 10: return compare(rarely(2) ? "glove" : "bare", p);
            case 11: case 12: return compare("days", rarely(10) ? any(70) - 3 : 1 + any(3));
            case 13: return compare("undo");
            case 14: return compare("able", p, d);
            case 15: return partedCalls();
            case 16: return fitsCalls();
            case 17: return both("hears", p, index(x.count(0)));
            case 18: return rarely(2) ? both("guards") : both("guarding");
            case 19: return bestCalls();
            case 20: return rarely(2) ? both("earns", p) : both("richest");
            case 21: return slipCalls(p);
            case 22: return rarely(3) ? compare("drawn", rarely(5) ? any(65) - 2 : 1 + any(5), random.nextInt())
                    : both("odds", p, index(31), random.nextInt());
            case 23: case 24: case 25: return bookCalls();
            case 26: case 27: return sentenceCalls();
            case 28: return imageCalls();
            default: return rareCalls(p, d);
        }
    }

    private String newDuchy() {
        String wrong = text(rarely(4) ? duchyText() : spoil(duchyText()));
        return wrong == null ? compare("duchy") : wrong;
    }

    private String partedCalls() {
        int n = rarely(8) ? any(7) : 1 + any(4);
        byte[] bytes = new byte[n];
        for (int i = 0; i < n; i++) {
            bytes[i] = (byte) index(x.count(1));
        }
        String wrong = tape(bytes);
        wrong = wrong == null ? both("parted") : wrong;
        for (int k = -1; k < 5 && wrong == null; k++) {
            wrong = both("partedAt", k, 0);
            wrong = wrong == null ? both("partedAt", k, 1) : wrong;
        }
        return wrong == null && rarely(5) ? both("partedAt", index(4), index(2)) : wrong;
    }

    private String fitsCalls() {
        int n = rarely(8) ? any(15) : 2 + 2 * any(3);
        byte[] bytes = new byte[n];
        for (int i = 0; i < n; i++) {
            bytes[i] = (byte) (i % 2 == 0 ? index(x.count(1)) : index(2));
        }
        String wrong = tape(bytes);
        wrong = wrong == null ? both("fits") : wrong;
        for (int k = -1; k < 9 && wrong == null; k++) {
            wrong = both("fitAt", k);
        }
        return wrong == null ? both("test") : wrong;
    }

    private String bestCalls() {
        String wrong = rarely(3) ? null : both("best");
        for (int p = -1; p < 8 && wrong == null; p++) {
            wrong = both("bestOf", p);
        }
        return wrong;
    }

    private String slipCalls(int p) {
        String wrong = both("slip", p);
        for (int i = 0; i < 3 && wrong == null; i++) {
            wrong = both("byteAt", index(40));
        }
        return wrong;
    }

    private String bookCalls() {
        String wrong = text(rarely(3) ? spoil(bookText()) : bookText());
        wrong = wrong == null ? compare("book", index(2)) : wrong;
        for (int what = -1; what < 5 && wrong == null; what++) {
            wrong = both("told", what);
        }
        return wrong;
    }

    private String sentenceCalls() {
        String wrong = text(rarely(3) ? spoil(condText(0)) : condText(0));
        wrong = wrong == null ? both("sentence") : wrong;
        wrong = wrong == null ? both("fault") : wrong;
        for (int k = -2; k < 8 && wrong == null; k++) {
            wrong = both("said", k);
        }
        return wrong;
    }

    private String imageCalls() {
        return rarely(2) ? both("image", index(2)) : rarely(2) ? compare("restore", index(2)) : both("said", -1);
    }

    private String rareCalls(int p, int d) {
        switch (any(6)) {
            case 0: return both("skill", p, index(3));
            case 1: return both("deed", d, index(5));
            case 2: return both("person", p, index(8));
            case 3: return both("now", index(8));
            case 4: return both("count", index(6));
            default: return both("end", index(30));
        }
    }

    private String text(String text) {
        return tape(text.getBytes(StandardCharsets.ISO_8859_1));
    }

    private String tape(byte[] bytes) {
        String wrong = both("end", 0);
        int fed = 0;
        for (int i = 0; i < bytes.length && i < 940 && wrong == null; i += 20) {
            int[] five = new int[5];
            for (int k = 0; k < 20; k++) {
                five[k / 4] = five[k / 4] << 8 | (i + k < bytes.length ? bytes[i + k] & 255 : 0);
            }
            wrong = both("feed", five);
            fed = Math.min(bytes.length, i + 20);
        }
        return wrong == null ? both("end", fed) : wrong;
    }

    /** A call that changes something: all that can be asked plainly is compared behind it. */
    private String compare(String name, int... a) {
        String wrong = both(name, a);
        for (int what = 0; what < 8 && wrong == null; what++) {
            wrong = both("now", what);
        }
        int p = index(x.count(0));
        for (int what = 0; what < 8 && wrong == null; what++) {
            wrong = both("person", p, what);
        }
        wrong = wrong == null ? both("deed", index(x.count(1)), 4) : wrong;
        return wrong == null ? both("fault") : wrong;
    }

    private String both(String name, int... a) {
        calls++;
        long got;
        long want;
        try {
            got = Calls.of(x, name, a);
        } catch (NoSuchElementException e) {
            got = Long.MIN_VALUE;
        }
        try {
            want = Calls.of(model, name, a);
        } catch (NoSuchElementException e) {
            want = Long.MIN_VALUE;
        }
        story.append(name).append(java.util.Arrays.toString(a)).append(" = ").append(got).append('\n');
        return got == want ? null : name + java.util.Arrays.toString(a) + " answered " + got + ", due is " + want;
    }

    private String spoil(String text) {
        StringBuilder s = new StringBuilder(text);
        int times = 1 + any(2);
        for (int i = 0; i < times; i++) {
            int at = any(s.length() + 1);
            switch (any(6)) {
                case 0: s.insert(at, (char) any(256)); break;
                case 1: s.insert(at, " " + pick(WORDS) + " "); break;
                case 2: s.insert(at, " ".repeat(any(300))); break;
                case 3: s.insert(at, pick(new String[] {";", "(", ")", "<", "=", ">", " 5 ", "12", "a", "zoe"})); break;
                case 4: s.delete(at, Math.min(s.length(), at + 1 + any(6))); break;
                default: s.setLength(at); break;
            }
        }
        return s.toString();
    }

    private String gap() {
        return rarely(6) ? "\n " : "";
    }

    private String duchyText() {
        StringBuilder s = new StringBuilder();
        int persons = rarely(40) ? 8 : rarely(15) ? 0 : 2 + any(6);
        int deeds = rarely(40) ? 9 : rarely(15) ? 0 : 2 + any(7);
        for (int p = 0; p < persons; p++) {
            s.append("person ").append(NAMES[p]).append(' ').append(1 + any(9)).append(' ').append(1 + any(9))
                    .append(rarely(5) ? " gloved" : "").append(';').append(gap());
        }
        for (int d = 0; d < deeds; d++) {
            boolean both = rarely(3);
            s.append("deed ").append(DEEDS[d]).append(' ').append(1 + any(both ? 18 : 9)).append(' ').append(any(31))
                    .append(' ').append(any(10)).append(both ? " both" : "").append(';').append(gap());
        }
        for (String once : new String[] {"law", "cell", "ideas"}) {
            if (!rarely(3)) {
                s.append(once).append(' ').append(1 + any(once.equals("ideas") ? 5 : 12)).append(';');
            }
        }
        if (persons > 1) {
            pairs(s, persons);
        }
        return s.toString();
    }

    private void pairs(StringBuilder s, int persons) {
        int sees = any(20);
        int bias = any(3);
        for (int p = 0; p < persons; p++) {
            for (int q = 0; q < persons; q++) {
                boolean can = s.length() < 880 && p < 8 && q < 8 && p != q || rarely(400);
                if (can && any(20) < sees / 2) {
                    s.append("sees ").append(NAMES[p]).append(' ').append(NAMES[q]).append(';').append(gap());
                }
                if (can && any(3) <= bias) {
                    s.append("fond ").append(NAMES[p]).append(' ').append(NAMES[q]).append(' ').append(1 + any(rarely(2) ? 9 : 2))
                            .append(';');
                }
            }
        }
    }

    private String bookText() {
        StringBuilder s = new StringBuilder();
        int lines = rarely(20) ? 38 + any(5) : any(7);
        for (int i = 0; i < lines; i++) {
            String who = NAMES[any(Math.max(1, x.count(0) + (rarely(30) ? 1 : 0)))  % 8];
            String other = NAMES[any(Math.max(1, x.count(0))) % 8];
            String deed = DEEDS[any(Math.max(1, x.count(1))) % 9];
            switch (lines > 30 ? 5 + any(2) : any(8)) {
                case 0: s.append(who).append(" weds ").append(other); break;
                case 1: s.append(who).append(" parts"); break;
                case 2: s.append(who).append(rarely(2) ? " gloves" : " bares"); break;
                case 3: case 4: case 5: s.append("day ").append(1 + any(rarely(20) ? 60 : 2)); break;
                default: s.append(lines > 30 ? "day 1" : who + " does " + deed + " " + pick(new String[] {"right", "left", "two"}));
            }
            s.append(';').append(gap());
        }
        return s.toString();
    }

    private String condText(int depth) {
        StringBuilder s = new StringBuilder(oneText(depth));
        while (rarely(depth == 0 ? 2 : 3)) {
            s.append(rarely(2) ? " or " : " and ").append(oneText(depth));
        }
        return s.toString();
    }

    private String oneText(int depth) {
        switch (any(depth > 9 ? 6 : 9)) {
            case 0: return pick(new String[] {"jailed", "gloved", "wed", "busy", "seen"});
            case 1: return "to " + NAMES[any(Math.max(1, x.count(0))) % 8];
            case 2: return "owns" + pick(new String[] {"<", "=", ">"}) + any(rarely(2) ? 1000 : 60);
            case 3: return "blame " + pick(new String[] {"<", "=", ">"}) + " " + any(10);
            case 4: return "idea" + pick(new String[] {"<", "=", ">"}) + any(6);
            case 5: return "number " + pick(new String[] {"<", "=", ">"}) + any(7);
            case 6: return "(" + condText(depth + 1) + ")";
            default: return "not " + oneText(depth + 1);
        }
    }
}
