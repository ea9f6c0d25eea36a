import java.util.ArrayDeque;
import java.util.ArrayList;
import java.util.Arrays;
import java.util.Deque;
import java.util.HashMap;
import java.util.HashSet;
import java.util.List;
import java.util.Map;
import java.util.NoSuchElementException;
import java.util.Set;
import java.util.function.IntPredicate;

/** The document told a second time, by other means and without thrift, for OracleTest to compare with. */
final class Model {
    static final Set<String> KEYWORDS = new HashSet<>(Arrays.asList(
            ("person gloved deed both sees fond law cell ideas does weds parts gloves bares day right left two "
            + "or and not jailed wed busy seen to owns blame idea number").split(" ")));

    static final class Fault extends RuntimeException {
        private static final long serialVersionUID = 1L;
        final int kind;
        final int place;

        Fault(int kind, int place) {
            this.kind = kind;
            this.place = place;
        }
    }

    static final class Token {
        final int place;
        final String text;

        Token(int place, String text) {
            this.place = place;
            this.text = text;
        }

        boolean isWord() {
            return text.matches("[a-z]{1,7}");
        }

        boolean isNumber() {
            return text.matches("[0-9]{1,3}");
        }

        boolean isName() {
            return isWord() && !KEYWORDS.contains(text);
        }
    }

    /** What is told by a text, and what goes on; all that is kept by an image but the sentence. */
    static final class World {
        List<String> persons = new ArrayList<>();
        List<String> deeds = new ArrayList<>();
        List<int[]> skills = new ArrayList<>();
        List<int[]> deedNumbers = new ArrayList<>();
        Set<List<Integer>> sees = new HashSet<>();
        Map<List<Integer>, Integer> fond = new HashMap<>();
        Map<String, Integer> once = new HashMap<>();
        int[][] state = new int[7][7];
        boolean[] gloved = new boolean[7];
        int[] doneOf = new int[8];
        int day;
        int hadUp;

        World copy() {
            World w = new World();
            w.persons = persons;
            w.deeds = deeds;
            w.skills = skills;
            w.deedNumbers = deedNumbers;
            w.sees = sees;
            w.fond = fond;
            w.once = once;
            for (int p = 0; p < 7; p++) {
                w.state[p] = state[p].clone();
            }
            w.gloved = gloved.clone();
            w.doneOf = doneOf.clone();
            w.day = day;
            w.hadUp = hadUp;
            return w;
        }

        int n() {
            return persons.size();
        }

        int coins(int p) {
            return state[p][0];
        }

        boolean jailed(int p) {
            return state[p][2] > 0;
        }

        int spouse(int p) {
            return state[p][4] - 1;
        }

        boolean seen(int p) {
            for (int q = 0; q < n(); q++) {
                if (sees.contains(List.of(q, p)) && !jailed(q)) {
                    return true;
                }
            }
            return false;
        }

        int bits(IntPredicate which) {
            int bits = 0;
            for (int p = 0; p < n(); p++) {
                bits |= which.test(p) ? 1 << p : 0;
            }
            return bits;
        }

        int skill(int p, int hand) {
            int[] both = skills.get(p);
            return hand == 0 ? both[0] : hand == 1 ? both[1] : both[0] + both[1];
        }

        boolean could(int p, int d, int hand) {
            int[] deed = deedNumbers.get(d);
            return deed[3] == (hand == 2 ? 1 : 0) && skill(p, hand) >= deed[0];
        }

        int whyNotDo(int p, int d, int hand) {
            int[] deed = deedNumbers.get(d);
            boolean[] against = {
                jailed(p),
                (state[p][6] & new int[] {1, 2, 3}[hand]) != 0,
                deed[3] == 1 && hand < 2 || deed[3] == 0 && hand == 2,
                skill(p, hand) < deed[0],
                gloved[p] && hand != 0};
            for (int i = 0; i < 5; i++) {
                if (against[i]) {
                    return i + 1;
                }
            }
            return 0;
        }

        int act(String verb, int p, int q, int hand) {
            int why;
            switch (verb) {
                case "does":
                    why = whyNotDo(p, q, hand);
                    if (why == 0) {
                        doIt(p, q, hand);
                    }
                    return why;
                case "weds":
                    why = p == q ? 1 : spouse(p) >= 0 || spouse(q) >= 0 ? 2 : gloved[p] || gloved[q] ? 3
                            : jailed(p) || jailed(q) ? 4 : 0;
                    if (why == 0) {
                        state[p][4] = q + 1;
                        state[q][4] = p + 1;
                    }
                    return why;
                case "parts":
                    if (spouse(p) < 0) {
                        return 1;
                    }
                    state[spouse(p)][4] = 0;
                    state[p][4] = 0;
                    return 0;
                case "gloves":
                    why = gloved[p] ? 1 : spouse(p) >= 0 ? 2 : 0;
                    gloved[p] |= why == 0;
                    return why;
                case "bares":
                    why = gloved[p] ? 0 : 1;
                    gloved[p] = false;
                    return why;
                default:
                    if (day + q > 400) {
                        return 1;
                    }
                    for (int i = 0; i < q; i++) {
                        dayGoes();
                    }
                    return 0;
            }
        }

        private void doIt(int p, int d, int hand) {
            int[] deed = deedNumbers.get(d);
            state[p][0] = Math.min(999, state[p][0] + deed[1]);
            state[p][6] |= new int[] {1, 2, 3}[hand];
            doneOf[d]++;
            if (hand == 1) {
                state[p][3] = Math.min(99, state[p][3] + 1);
            } else if (seen(p)) {
                state[p][1] += deed[2];
                if (state[p][1] >= once.getOrDefault("law", 10)) {
                    state[p][1] = 0;
                    state[p][2] = once.getOrDefault("cell", 3);
                    hadUp++;
                }
            }
        }

        void dayGoes() {
            for (int p = 0; p < n(); p++) {
                if (state[p][3] >= once.getOrDefault("ideas", 5) && spouse(p) >= 0 && coins(p) > 0) {
                    state[p][0]--;
                    state[spouse(p)][0] = Math.min(999, coins(spouse(p)) + 1);
                }
            }
            for (int p = 0; p < n(); p++) {
                state[p][2] = Math.max(0, state[p][2] - 1);
                state[p][6] = 0;
            }
            day++;
        }

        int drawn(int n, int seed) {
            int gone = 0;
            int[] x = {seed};
            while (gone < n && day < 400) {
                for (int p = 0; p < n(); p++) {
                    if (!deeds.isEmpty()) {
                        int d = draw(x, deeds.size());
                        int hand = draw(x, 3);
                        act("does", p, d, hand);
                    }
                    int turn = draw(x, 8);
                    if (turn == 0) {
                        act("weds", p, draw(x, n()), 0);
                    } else if (turn == 1) {
                        act("parts", p, 0, 0);
                    }
                }
                dayGoes();
                gone++;
            }
            return gone;
        }

        private static int draw(int[] x, int n) {
            x[0] = x[0] * 1103515245 + 12345;
            return (x[0] >>> 8) % n;
        }
    }

    private byte[] tape = new byte[0];
    private World world = new World();
    private Deque<World> past = new ArrayDeque<>();
    private final World[] images = new World[2];
    private final Object[][] imageSentences = new Object[2][];
    private int latestFault;
    private Object[] sentence;
    private List<int[]> latestParted;
    private List<Integer> latestFits;
    private int latestTest = -1;
    private int latestGuards = -1;
    private int[] latestBest;
    private String latestSlip = "";
    private int[] latestBook;

    private List<Token> tokens;
    private int at;
    private int ones;

    private boolean noPerson(int p) {
        return p < 0 || p >= world.n();
    }

    private boolean noDeed(int d) {
        return d < 0 || d >= world.deeds.size();
    }

    int feed(int... five) {
        if (tape.length + 20 > 940) {
            return -1;
        }
        int old = tape.length;
        tape = Arrays.copyOf(tape, old + 20);
        java.nio.ByteBuffer.wrap(tape, old, 20).putInt(five[0]).putInt(five[1]).putInt(five[2]).putInt(five[3])
                .putInt(five[4]);
        return tape.length;
    }

    boolean end(int n) {
        if (n < 0 || n > tape.length) {
            return false;
        }
        tape = Arrays.copyOf(tape, n);
        return true;
    }

    private byte[] takeTape() {
        byte[] old = tape;
        tape = new byte[0];
        return old;
    }

    private void tokenize(int most) {
        String text = new String(takeTape(), java.nio.charset.StandardCharsets.ISO_8859_1);
        tokens = new ArrayList<>();
        at = 0;
        java.util.regex.Matcher m = java.util.regex.Pattern.compile("[ \n]+|[a-z0-9]+|(?s:.)").matcher(text);
        while (m.find()) {
            if (m.group().matches("[ \n]+")) {
                continue;
            }
            if (m.start() >= most) {
                break;
            }
            tokens.add(new Token(m.start(), m.group()));
        }
        tokens.add(text.length() > most ? new Token(most, "!") : new Token(text.length(), ""));
    }

    private Token here() {
        return tokens.get(at);
    }

    private Token take() {
        return tokens.get(at++);
    }

    private Token expect(boolean fine) {
        if (!fine) {
            throw new Fault(1, here().place);
        }
        return take();
    }

    private int number(int least, int most) {
        Token t = expect(here().isNumber());
        int value = Integer.parseInt(t.text);
        if (value < least || value > most) {
            throw new Fault(2, t.place);
        }
        return value;
    }

    private int named(List<String> names) {
        Token t = expect(here().isName());
        if (!names.contains(t.text)) {
            throw new Fault(3, t.place);
        }
        return names.indexOf(t.text);
    }

    int duchy() {
        tokenize(900);
        try {
            World w = new World();
            int lines = 0;
            while (!here().text.equals("")) {
                duchyLine(w);
                expect(here().text.equals(";"));
                lines++;
            }
            world = w;
            past.clear();
            sentence = null;
            latestFault = 0;
            return lines;
        } catch (Fault f) {
            latestFault = f.kind;
            return -1 - f.place;
        }
    }

    private void duchyLine(World w) {
        Token first = expect(Arrays.asList("person", "deed", "sees", "fond", "law", "cell", "ideas")
                .contains(here().text));
        switch (first.text) {
            case "person":
                if (w.persons.size() == 7) {
                    throw new Fault(4, first.place);
                }
                w.persons.add(newName(w));
                w.skills.add(new int[] {number(1, 9), number(1, 9)});
                if (here().text.equals("gloved")) {
                    take();
                    w.gloved[w.persons.size() - 1] = true;
                }
                break;
            case "deed":
                if (w.deeds.size() == 8) {
                    throw new Fault(4, first.place);
                }
                w.deeds.add(newName(w));
                int[] four = {number(1, 18), number(0, 30), number(0, 9), 0};
                w.deedNumbers.add(four);
                if (here().text.equals("both")) {
                    take();
                    four[3] = 1;
                }
                break;
            case "sees":
            case "fond":
                int p = named(w.persons);
                int place = here().place;
                int q = named(w.persons);
                boolean sees = first.text.equals("sees");
                List<Integer> two = List.of(p, q);
                if (p == q || (sees ? w.sees.contains(two) : w.fond.containsKey(two))) {
                    throw new Fault(3, place);
                }
                if (sees) {
                    w.sees.add(two);
                } else {
                    w.fond.put(two, number(1, 9));
                }
                break;
            default:
                if (w.once.containsKey(first.text)) {
                    throw new Fault(3, first.place);
                }
                w.once.put(first.text, number(1, 30));
                break;
        }
    }

    private String newName(World w) {
        Token t = expect(here().isName());
        if (w.persons.contains(t.text) || w.deeds.contains(t.text)) {
            throw new Fault(3, t.place);
        }
        return t.text;
    }

    int fault() {
        return latestFault;
    }

    int person(int p, int what) {
        if (noPerson(p) || what < 0 || what > 7) {
            throw new NoSuchElementException();
        }
        if (what == 5) {
            return world.gloved[p] ? 1 : 0;
        }
        if (what == 7) {
            return world.seen(p) ? 1 : 0;
        }
        return what == 4 ? world.spouse(p) : world.state[p][what];
    }

    int skill(int p, int hand) {
        return noPerson(p) || hand < 0 || hand > 2 ? -1 : world.skill(p, hand);
    }

    int deed(int d, int what) {
        if (noDeed(d) || what < 0 || what > 4) {
            return -1;
        }
        return what == 4 ? world.doneOf[d] : world.deedNumbers.get(d)[what];
    }

    int now(int what) {
        World w = world;
        switch (what) {
            case 0: return w.day;
            case 1: return w.bits(w::jailed);
            case 2: return w.bits(p -> w.gloved[p]);
            case 3: return w.bits(p -> w.spouse(p) >= 0);
            case 4: return w.bits(w::seen);
            case 5: return Arrays.stream(w.state).mapToInt(s -> s[0]).sum();
            case 6: return w.hadUp;
            case 7: return Arrays.stream(w.doneOf).sum();
            default: return -1;
        }
    }

    private void remember(World before) {
        past.addLast(before);
        if (past.size() > 8) {
            past.removeFirst();
        }
    }

    private int act(String verb, int p, int q, int hand) {
        World before = world.copy();
        int why = world.act(verb, p, q, hand);
        if (why == 0) {
            remember(before);
        }
        return why;
    }

    int does(int p, int d, int hand) {
        return noPerson(p) || noDeed(d) || hand < 0 || hand > 2 ? -1 : act("does", p, d, hand);
    }

    int wed(int p, int q) {
        return noPerson(p) || noPerson(q) ? -1 : act("weds", p, q, 0);
    }

    int part(int p) {
        return noPerson(p) ? -1 : act("parts", p, 0, 0);
    }

    int glove(int p) {
        return noPerson(p) ? -1 : act("gloves", p, 0, 0);
    }

    int bare(int p) {
        return noPerson(p) ? -1 : act("bares", p, 0, 0);
    }

    int days(int n) {
        if (n < 1 || n > 60) {
            return -1;
        }
        World before = world.copy();
        int gone = 0;
        while (gone < n && world.day < 400) {
            world.dayGoes();
            gone++;
        }
        if (gone > 0) {
            remember(before);
        }
        return gone;
    }

    int undo() {
        if (past.isEmpty()) {
            return -1;
        }
        world = past.removeLast();
        return past.size();
    }

    int able(int p, int d) {
        if (noPerson(p) || noDeed(d)) {
            return -1;
        }
        int bits = 0;
        for (int hand = 0; hand < 3; hand++) {
            bits |= world.whyNotDo(p, d, hand) == 0 ? 1 << hand : 0;
        }
        return bits;
    }

    int parted() {
        byte[] deeds = takeTape();
        if (deeds.length < 1 || deeds.length > 4) {
            return -1;
        }
        for (byte d : deeds) {
            if (noDeed(d & 255)) {
                return -1;
            }
        }
        List<int[]> best = null;
        int most = -1;
        int ways = world.n() * 3 + 1;
        int all = (int) Math.pow(ways, deeds.length);
        for (int code = 0; code < all; code++) {
            List<int[]> way = new ArrayList<>();
            int rest = code;
            int done = 0;
            for (int k = deeds.length - 1; k >= 0; k--) {
                int place = rest % ways;
                rest /= ways;
                way.add(0, place == ways - 1 ? new int[] {-1, -1} : new int[] {place / 3, place % 3});
                done += place == ways - 1 ? 0 : 1;
            }
            if (done > most && fine(deeds, way)) {
                most = done;
                best = way;
            }
        }
        latestParted = best;
        return most;
    }

    private boolean fine(byte[] deeds, List<int[]> way) {
        int[] used = new int[7];
        for (int k = 0; k < deeds.length; k++) {
            int p = way.get(k)[0];
            int hand = way.get(k)[1];
            if (p < 0) {
                continue;
            }
            int bits = hand == 2 ? 3 : 1 << hand;
            boolean blamed = hand != 1 && world.seen(p) && world.deedNumbers.get(deeds[k])[2] > 0;
            if (blamed || (used[p] & bits) != 0 || world.whyNotDo(p, deeds[k], hand) != 0) {
                return false;
            }
            used[p] |= bits;
        }
        return true;
    }

    int partedAt(int k, int what) {
        if (latestParted == null || k < 0 || k >= latestParted.size() || what < 0 || what > 1) {
            return -1;
        }
        return latestParted.get(k)[what];
    }

    int fits() {
        byte[] pairs = takeTape();
        if (pairs.length < 2 || pairs.length > 12 || pairs.length % 2 == 1) {
            return -1;
        }
        for (int i = 0; i < pairs.length; i += 2) {
            if (noDeed(pairs[i] & 255) || pairs[i + 1] < 0 || pairs[i + 1] > 1) {
                return -1;
            }
        }
        List<Integer> fit = new ArrayList<>();
        for (int h = 0; h < 3 * world.n(); h++) {
            boolean good = true;
            for (int i = 0; i < pairs.length; i += 2) {
                good &= world.could(h / 3, pairs[i], h % 3) == (pairs[i + 1] == 1);
            }
            if (good) {
                fit.add(h);
            }
        }
        if (!fit.isEmpty()) {
            latestFits = fit;
            int least = 1000;
            for (int d = 0; d < world.deeds.size(); d++) {
                int more = 0;
                for (int h : fit) {
                    more += world.could(h / 3, d, h % 3) ? 1 : -1;
                }
                if (Math.abs(more) < least) {
                    least = Math.abs(more);
                    latestTest = d;
                }
            }
        }
        return fit.size();
    }

    int fitAt(int k) {
        return latestFits == null || k < 0 || k >= latestFits.size() ? -1 : latestFits.get(k);
    }

    int test() {
        return latestTest;
    }

    int hears(int p, int q) {
        if (noPerson(p) || noPerson(q)) {
            return -1;
        }
        int far = 1000;
        int[][] way = new int[world.n()][world.n()];
        for (int a = 0; a < world.n(); a++) {
            for (int b = 0; b < world.n(); b++) {
                way[a][b] = a == b ? 0 : world.sees.contains(List.of(a, b)) ? 1 : far;
            }
        }
        for (int c = 0; c < world.n(); c++) {
            for (int a = 0; a < world.n(); a++) {
                for (int b = 0; b < world.n(); b++) {
                    way[a][b] = Math.min(way[a][b], way[a][c] + way[c][b]);
                }
            }
        }
        return way[p][q] >= far ? -1 : way[p][q];
    }

    int guards() {
        int best = -1;
        for (int set = (1 << world.n()) - 1; set >= 0; set--) {
            boolean good = true;
            for (int q = 0; q < world.n(); q++) {
                boolean watched = (set >> q & 1) == 1;
                for (int p = 0; p < world.n(); p++) {
                    watched |= (set >> p & 1) == 1 && world.sees.contains(List.of(p, q));
                }
                good &= watched;
            }
            if (good && (best < 0 || Integer.bitCount(set) <= Integer.bitCount(best))) {
                best = set;
            }
        }
        latestGuards = best;
        return Integer.bitCount(best);
    }

    int guarding() {
        return latestGuards;
    }

    int best() {
        int[] found = {-1};
        int[] partner = new int[7];
        Arrays.fill(partner, -1);
        latestBest = null;
        tryPairs(0, 0, partner, found);
        return found[0];
    }

    /** All partner rows, compared by sum and then by the row, none counting as 99. */
    private void tryPairs(int p, int sum, int[] partner, int[] found) {
        if (p == world.n()) {
            if (sum > found[0] || sum == found[0] && isAhead(partner, latestBest)) {
                found[0] = sum;
                latestBest = partner.clone();
            }
            return;
        }
        tryPairs(p + 1, sum, partner, found);
        for (int q = 0; q < p; q++) {
            if (partner[q] < 0 && free(p) && free(q)) {
                int a = world.fond.getOrDefault(List.of(p, q), 0);
                int b = world.fond.getOrDefault(List.of(q, p), 0);
                if (a > 0 && b > 0) {
                    partner[p] = q;
                    partner[q] = p;
                    tryPairs(p + 1, sum + a + b, partner, found);
                    partner[p] = -1;
                    partner[q] = -1;
                }
            }
        }
    }

    private boolean free(int p) {
        return !world.jailed(p) && !world.gloved[p] && world.spouse(p) < 0;
    }

    private static boolean isAhead(int[] a, int[] b) {
        for (int i = 0; i < a.length; i++) {
            int x = a[i] < 0 ? 99 : a[i];
            int y = b[i] < 0 ? 99 : b[i];
            if (x != y) {
                return x < y;
            }
        }
        return false;
    }

    int bestOf(int p) {
        return latestBest == null || noPerson(p) ? -1 : latestBest[p];
    }

    int earns(int p) {
        if (noPerson(p)) {
            return -1;
        }
        World w = world.copy();
        w.state[p][2] = 0;
        w.state[p][6] = 0;
        boolean seen = world.seen(p);
        int most = 0;
        for (int r = -1; r < w.deeds.size(); r++) {
            for (int l = -1; l < w.deeds.size(); l++) {
                int[] right = r < 0 ? new int[4] : w.deedNumbers.get(r);
                int[] left = l < 0 ? new int[4] : w.deedNumbers.get(l);
                boolean good = r < 0 || w.whyNotDo(p, r, 0) == 0 && !(seen && right[2] > 0);
                good &= l < 0 || w.whyNotDo(p, l, 1) == 0;
                most = good ? Math.max(most, right[1] + left[1]) : most;
            }
            if (r >= 0 && w.whyNotDo(p, r, 2) == 0 && !(seen && w.deedNumbers.get(r)[2] > 0)) {
                most = Math.max(most, w.deedNumbers.get(r)[1]);
            }
        }
        return most;
    }

    int richest() {
        int best = -1;
        for (int p = world.n() - 1; p >= 0; p--) {
            if (best < 0 || world.coins(p) >= world.coins(best)) {
                best = p;
            }
        }
        return best;
    }

    int slip(int p) {
        if (noPerson(p)) {
            return -1;
        }
        latestSlip = world.persons.get(p) + " owns " + world.coins(p)
                + (world.jailed(p) ? " in cell " + world.state[p][2] : "")
                + (world.gloved[p] ? " gloved" : "")
                + (world.spouse(p) >= 0 ? " wed to " + world.persons.get(world.spouse(p)) : "");
        return latestSlip.length();
    }

    int byteAt(int i) {
        return i < 0 || i >= latestSlip.length() ? -1 : latestSlip.charAt(i);
    }

    int drawn(int n, int seed) {
        if (n < 1 || n > 60 || world.n() == 0) {
            return -1;
        }
        World before = world.copy();
        int gone = world.drawn(n, seed);
        if (gone > 0) {
            remember(before);
        }
        return gone;
    }

    int odds(int p, int n, int seed) {
        if (noPerson(p) || n < 1 || n > 30) {
            return -1;
        }
        int more = 0;
        for (int i = 0; i < n; i++) {
            World w = world.copy();
            w.drawn(20, seed + i);
            more += w.coins(p) > world.coins(p) ? 1 : 0;
        }
        return more;
    }

    int book(int lives) {
        if (lives < 0 || lives > 1) {
            return -1000;
        }
        tokenize(400);
        List<Object[]> lines = new ArrayList<>();
        try {
            while (!here().text.equals("")) {
                int place = here().place;
                boolean day = here().text.equals("day");
                int p = 0;
                if (day) {
                    take();
                } else {
                    p = named(world.persons);
                }
                if (lines.size() == 40) {
                    throw new Fault(4, place);
                }
                lines.add(day ? new Object[] {"day", 0, number(1, 60), 0} : bookAct(p));
                expect(here().text.equals(";"));
            }
            latestFault = 0;
        } catch (Fault f) {
            latestFault = f.kind;
            return -2 - f.place;
        }
        World before = world.copy();
        World w = world.copy();
        int wrong = -1;
        int why = 0;
        int good = 0;
        List<String> verbs = Arrays.asList("does", "weds", "parts", "gloves", "bares", "day");
        for (Object[] line : lines) {
            why = w.act((String) line[0], (Integer) line[1], (Integer) line[2], (Integer) line[3]);
            if (why != 0) {
                why += 10 * verbs.indexOf(line[0]);
                wrong = good;
                break;
            }
            good++;
        }
        World end = w;
        latestBook = new int[] {why, good, w.day, w.bits(end::jailed)};
        if (lives == 1) {
            remember(before);
            world = w;
        }
        return wrong;
    }

    private Object[] bookAct(int p) {
        String verb = expect(Arrays.asList("does", "weds", "parts", "gloves", "bares").contains(here().text)).text;
        if (verb.equals("weds")) {
            return new Object[] {verb, p, named(world.persons), 0};
        }
        if (verb.equals("does")) {
            int d = named(world.deeds);
            List<String> hands = Arrays.asList("right", "left", "two");
            return new Object[] {verb, p, d, hands.indexOf(expect(hands.contains(here().text)).text)};
        }
        return new Object[] {verb, p, 0, 0};
    }

    int told(int what) {
        return latestBook == null || what < 0 || what > 3 ? -1 : latestBook[what];
    }

    int sentence() {
        tokenize(200);
        ones = 0;
        try {
            Object[] tree = cond(1);
            expect(here().text.equals(""));
            sentence = tree;
            latestFault = 0;
            return ones;
        } catch (Fault f) {
            latestFault = f.kind;
            return -1 - f.place;
        }
    }

    private Object[] cond(int depth) {
        Object[] tree = all(depth);
        while (here().text.equals("or")) {
            take();
            tree = new Object[] {"or", tree, all(depth)};
        }
        return tree;
    }

    private Object[] all(int depth) {
        Object[] tree = one(depth);
        while (here().text.equals("and")) {
            take();
            tree = new Object[] {"and", tree, one(depth)};
        }
        return tree;
    }

    private Object[] one(int depth) {
        Token t = expect(Arrays.asList("not", "(", "jailed", "gloved", "wed", "busy", "seen", "to", "owns", "blame",
                "idea", "number").contains(here().text));
        ones++;
        if (ones > 20 || depth > 8) {
            throw new Fault(4, t.place);
        }
        switch (t.text) {
            case "not": return new Object[] {"not", one(depth + 1)};
            case "(":
                Object[] tree = cond(depth + 1);
                expect(here().text.equals(")"));
                return tree;
            case "to": return new Object[] {"to", named(world.persons)};
            case "owns": case "blame": case "idea": case "number":
                String sign = expect(Arrays.asList("<", "=", ">").contains(here().text)).text;
                return new Object[] {t.text, sign, number(0, 999)};
            default: return new Object[] {t.text};
        }
    }

    private boolean holds(Object[] tree, int p) {
        World w = world;
        switch ((String) tree[0]) {
            case "or": return holds((Object[]) tree[1], p) || holds((Object[]) tree[2], p);
            case "and": return holds((Object[]) tree[1], p) && holds((Object[]) tree[2], p);
            case "not": return !holds((Object[]) tree[1], p);
            case "jailed": return w.jailed(p);
            case "gloved": return w.gloved[p];
            case "wed": return w.spouse(p) >= 0;
            case "busy": return w.state[p][6] != 0;
            case "seen": return w.seen(p);
            case "to": return w.spouse(p) == (Integer) tree[1];
            default:
                int value = tree[0].equals("owns") ? w.coins(p) : tree[0].equals("blame") ? w.state[p][1]
                        : tree[0].equals("idea") ? w.state[p][3] : p;
                int sign = Integer.compare(value, (Integer) tree[2]);
                return sign == "<=>".indexOf((String) tree[1]) - 1;
        }
    }

    int said(int k) {
        if (sentence == null) {
            return -1;
        }
        List<Integer> who = new ArrayList<>();
        for (int p = 0; p < world.n(); p++) {
            if (holds(sentence, p)) {
                who.add(p);
            }
        }
        return k == -1 ? who.size() : k < 0 || k >= who.size() ? -1 : who.get(k);
    }

    boolean image(int k) {
        if (k < 0 || k > 1) {
            return false;
        }
        images[k] = world.copy();
        imageSentences[k] = sentence;
        return true;
    }

    boolean restore(int k) {
        if (k < 0 || k > 1 || images[k] == null) {
            return false;
        }
        world = images[k].copy();
        sentence = imageSentences[k];
        past.clear();
        return true;
    }

    int count(int what) {
        switch (what) {
            case 0: return world.n();
            case 1: return world.deeds.size();
            case 2: return world.once.getOrDefault("law", 10);
            case 3: return world.once.getOrDefault("cell", 3);
            case 4: return world.once.getOrDefault("ideas", 5);
            case 5: return tape.length;
            default: return -1;
        }
    }
}
