import java.util.NoSuchElementException;

/** A duchy of right hands that are blamed and left hands that are not; DOC.md tells every promise. */
public final class LeftAnswers {
    public static final int NONE = -1;

    private static final int MOST_PERSONS = 7;
    private static final int MOST_DEEDS = 8;
    private static final int HANDS = 3;
    private static final int RIGHT_HAND = 0;
    private static final int LEFT_HAND = 1;
    private static final int TWO_HANDS = 2;
    private static final int LAST_DAY = 400;
    private static final int MOST_DAYS_AT_ONCE = 60;
    private static final int MOST_SEEDS = 30;
    private static final int DAYS_OF_ODDS = 20;
    private static final int MOST_PARTED = 4;
    private static final int MOST_FIT_PAIRS = 6;
    private static final int NO_SUCH_LIVES = -1000;

    // The kinds of FAULTS.
    private static final int CANNOT_COME = 1;
    private static final int BAD_NUMBER = 2;
    private static final int BAD_NAME = 3;
    private static final int TOO_MANY = 4;

    // Ten apart, so that an act and why it can't be done add up to what told(0) answers.
    private static final int DOING = 0;
    private static final int WEDDING = 10;
    private static final int PARTING = 20;
    private static final int GLOVING = 30;
    private static final int BARING = 40;
    private static final int WAITING = 50;

    private final Tape tape;
    private Duchy duchy;
    private Duchy spareDuchy;
    private final Life life;
    private final Life trial;
    private final Past past;
    private final Book book;
    private Sentence sentence;
    private Sentence spareSentence;
    private final Parted parted;
    private final Pairs pairs;
    private final Slip slip;
    private final Image[] images;
    private int latestFault;
    private int fitBits;
    private int testDeed;
    private int guardBits;

    public LeftAnswers() {
        tape = new Tape();
        duchy = new Duchy();
        spareDuchy = new Duchy();
        life = new Life();
        trial = new Life();
        past = new Past();
        book = new Book();
        sentence = new Sentence();
        spareSentence = new Sentence();
        parted = new Parted();
        pairs = new Pairs();
        slip = new Slip();
        images = new Image[] {new Image(), new Image()};
        latestFault = 0;
        fitBits = 0;
        testDeed = NONE;
        guardBits = NONE;
    }

    public int feed(int a, int b, int c, int d, int e) {
        if (tape.length > Tape.MOST_BYTES - 20) {
            return NONE;
        }
        tape.put(a);
        tape.put(b);
        tape.put(c);
        tape.put(d);
        tape.put(e);
        return tape.length;
    }

    public boolean end(int n) {
        if (n < 0 || n > tape.length) {
            return false;
        }
        tape.length = n;
        return true;
    }

    public int duchy() {
        int lines = spareDuchy.readFrom(tape);
        takeFault();
        if (latestFault != 0) {
            return -1 - tape.faultPlace;
        }
        Duchy old = duchy;
        duchy = spareDuchy;
        spareDuchy = old;
        life.begin(duchy.gloved);
        past.forget();
        sentence.clear();
        return lines;
    }

    public int fault() {
        return latestFault;
    }

    public int person(int p, int what) throws NoSuchElementException {
        if (!isPerson(p) || what < 0 || what > 7) {
            throw new NoSuchElementException("no such person or question");
        }
        switch (what) {
            case 0: return life.coins[p];
            case 1: return life.blame[p];
            case 2: return life.cell[p];
            case 3: return life.ideas[p];
            case 4: return life.spouse[p];
            case 5: return life.isGloved(p) ? 1 : 0;
            case 6: return life.hands[p];
            default: return life.isSeen(duchy, p) ? 1 : 0;
        }
    }

    public int skill(int p, int hand) {
        if (!isPerson(p) || !isHand(hand)) {
            return NONE;
        }
        return duchy.skillOf(p, hand);
    }

    public int deed(int d, int what) {
        if (!isDeed(d)) {
            return NONE;
        }
        switch (what) {
            case 0: return duchy.hard[d];
            case 1: return duchy.pay[d];
            case 2: return duchy.blame[d];
            case 3: return duchy.needsBoth(d) ? 1 : 0;
            case 4: return life.doneOf[d];
            default: return NONE;
        }
    }

    public int now(int what) {
        switch (what) {
            case 0: return life.day;
            case 1: return life.jailedBits();
            case 2: return life.gloved;
            case 3: return life.wedBits();
            case 4: return life.seenBits(duchy);
            case 5: return life.allCoins();
            case 6: return life.hadUp;
            case 7: return life.done;
            default: return NONE;
        }
    }

    public int does(int p, int d, int hand) {
        if (!isPerson(p) || !isDeed(d) || !isHand(hand)) {
            return NONE;
        }
        return act(DOING, p, d, hand);
    }

    public int wed(int p, int q) {
        if (!isPerson(p) || !isPerson(q)) {
            return NONE;
        }
        return act(WEDDING, p, q, 0);
    }

    public int part(int p) {
        return isPerson(p) ? act(PARTING, p, 0, 0) : NONE;
    }

    public int glove(int p) {
        return isPerson(p) ? act(GLOVING, p, 0, 0) : NONE;
    }

    public int bare(int p) {
        return isPerson(p) ? act(BARING, p, 0, 0) : NONE;
    }

    public int days(int n) {
        if (n < 1 || n > MOST_DAYS_AT_ONCE) {
            return NONE;
        }
        int gone = Math.min(n, life.daysLeft());
        if (gone > 0) {
            past.keep(life);
            life.passDays(duchy, gone);
        }
        return gone;
    }

    public int undo() {
        return past.takeBack(life);
    }

    public int able(int p, int d) {
        if (!isPerson(p) || !isDeed(d)) {
            return NONE;
        }
        return life.ableBits(duchy, p, d);
    }

    public int parted() {
        int length = tape.length;
        boolean asTold = length >= 1 && length <= MOST_PARTED && tapeTellsDeeds(1);
        tape.length = 0;
        if (!asTold) {
            return NONE;
        }
        parted.begin(length);
        for (int k = 0; k < length; k++) {
            parted.can[k] = life.blamelessBits(duchy, tape.signAt(k));
        }
        return parted.solve();
    }

    public int partedAt(int k, int what) {
        if (what != 0 && what != 1) {
            return NONE;
        }
        int place = parted.placeOf(k);
        if (place < 0) {
            return NONE;
        }
        return what == 0 ? place / HANDS : place % HANDS;
    }

    public int fits() {
        int length = tape.length;
        boolean asTold = length >= 2 && length <= 2 * MOST_FIT_PAIRS && length % 2 == 0
                && tapeTellsDeeds(2) && tapeTellsOutcomes();
        tape.length = 0;
        if (!asTold) {
            return NONE;
        }
        int bits = duchy.allHandBits();
        for (int i = 0; i + 1 < length; i += 2) {
            int can = duchy.canBits(tape.signAt(i));
            bits &= tape.signAt(i + 1) == 1 ? can : ~can;
        }
        if (bits != 0) {
            fitBits = bits;
            testDeed = duchy.bestTest(bits);
        }
        return Integer.bitCount(bits);
    }

    public int fitAt(int k) {
        return bitAt(fitBits, k);
    }

    public int test() {
        return testDeed;
    }

    public int hears(int p, int q) {
        if (!isPerson(p) || !isPerson(q)) {
            return NONE;
        }
        return duchy.watchersBetween(p, q);
    }

    public int guards() {
        guardBits = duchy.fewestGuards();
        return Integer.bitCount(guardBits);
    }

    public int guarding() {
        return guardBits;
    }

    public int best() {
        return pairs.solve(duchy, life);
    }

    public int bestOf(int p) {
        return isPerson(p) ? pairs.partnerOf[p] : NONE;
    }

    public int earns(int p) {
        return isPerson(p) ? life.mostPay(duchy, p) : NONE;
    }

    public int richest() {
        int richest = NONE;
        int most = -1;
        for (int p = 0; p < duchy.persons; p++) {
            if (life.coins[p] > most) {
                most = life.coins[p];
                richest = p;
            }
        }
        return richest;
    }

    public int slip(int p) {
        if (!isPerson(p)) {
            return NONE;
        }
        slip.write(duchy, life, p);
        return slip.length;
    }

    public int byteAt(int i) {
        return i >= 0 && i < slip.length ? slip.bytes[i] : NONE;
    }

    public int drawn(int n, int seed) {
        if (n < 1 || n > MOST_DAYS_AT_ONCE || duchy.persons == 0) {
            return NONE;
        }
        int gone = Math.min(n, life.daysLeft());
        if (gone > 0) {
            past.keep(life);
            life.drawDays(duchy, gone, seed);
        }
        return gone;
    }

    public int odds(int p, int n, int seed) {
        if (!isPerson(p) || n < 1 || n > MOST_SEEDS) {
            return NONE;
        }
        int gone = Math.min(DAYS_OF_ODDS, life.daysLeft());
        int richer = 0;
        for (int i = 0; i < n; i++) {
            trial.copyFrom(life);
            trial.drawDays(duchy, gone, seed + i);
            if (trial.coins[p] > life.coins[p]) {
                richer++;
            }
        }
        return richer;
    }

    public int book(int lives) {
        if (lives != 0 && lives != 1) {
            return NO_SUCH_LIVES;
        }
        book.readFrom(tape, duchy);
        takeFault();
        if (latestFault != 0) {
            return -2 - tape.faultPlace;
        }
        trial.copyFrom(life);
        book.liveIn(trial, duchy);
        if (lives == 1) {
            past.keep(life);
            life.copyFrom(trial);
        }
        return book.wrongLine;
    }

    public int told(int what) {
        if (!book.judged) {
            return NONE;
        }
        switch (what) {
            case 0: return book.why;
            case 1: return book.goodLines;
            case 2: return book.dayThen;
            case 3: return book.jailedThen;
            default: return NONE;
        }
    }

    public int sentence() {
        spareSentence.readFrom(tape, duchy);
        takeFault();
        if (latestFault != 0) {
            return -1 - tape.faultPlace;
        }
        Sentence old = sentence;
        sentence = spareSentence;
        spareSentence = old;
        return sentence.ones;
    }

    public int said(int k) {
        if (sentence.ones == 0) {
            return NONE;
        }
        int bits = sentence.trueOf(duchy, life);
        return k == NONE ? Integer.bitCount(bits) : bitAt(bits, k);
    }

    public boolean image(int k) {
        if (k < 0 || k >= images.length) {
            return false;
        }
        images[k].keep(duchy, life, sentence);
        return true;
    }

    public boolean restore(int k) {
        if (k < 0 || k >= images.length || !images[k].kept) {
            return false;
        }
        images[k].giveBack(duchy, life, sentence);
        past.forget();
        return true;
    }

    public int count(int what) {
        switch (what) {
            case 0: return duchy.persons;
            case 1: return duchy.deeds;
            case 2: return duchy.law;
            case 3: return duchy.cell;
            case 4: return duchy.ideas;
            case 5: return tape.length;
            default: return NONE;
        }
    }

    private boolean isPerson(int p) {
        return p >= 0 && p < duchy.persons;
    }

    private boolean isDeed(int d) {
        return d >= 0 && d < duchy.deeds;
    }

    private static boolean isHand(int hand) {
        return hand >= 0 && hand < HANDS;
    }

    private int act(int verb, int p, int other, int hand) {
        int why = life.whyNot(duchy, verb, p, other, hand);
        if (why == 0) {
            past.keep(life);
            life.perform(duchy, verb, p, other, hand);
        }
        return why;
    }

    private void takeFault() {
        latestFault = tape.fault;
        tape.length = 0;
    }

    private boolean tapeTellsDeeds(int step) {
        for (int i = 0; i < tape.length; i += step) {
            if (!isDeed(tape.signAt(i))) {
                return false;
            }
        }
        return true;
    }

    private boolean tapeTellsOutcomes() {
        for (int i = 1; i < tape.length; i += 2) {
            if (tape.signAt(i) > 1) {
                return false;
            }
        }
        return true;
    }

    /** The place of the k-th bit that is set, from 0; NONE, if there are not so many. */
    private static int bitAt(int bits, int k) {
        int left = k;
        for (int i = 0; i < MOST_PERSONS * HANDS; i++) {
            if ((bits >>> i & 1) == 1) {
                if (left == 0) {
                    return i;
                }
                left--;
            }
        }
        return NONE;
    }

    /** The WORDS of all texts that are no NAMES, and what stands for a NAME and for no WORD at all. */
    private enum Word {
        NOTHING(""), NAME(""),
        PERSON("person"), GLOVED("gloved"), DEED("deed"), BOTH("both"), SEES("sees"), FOND("fond"),
        LAW("law"), CELL("cell"), IDEAS("ideas"),
        DOES("does"), WEDS("weds"), PARTS("parts"), GLOVES("gloves"), BARES("bares"), DAY("day"),
        RIGHT("right"), LEFT("left"), TWO("two"),
        OR("or"), AND("and"), NOT("not"), JAILED("jailed"), WED("wed"), BUSY("busy"), SEEN("seen"),
        TO("to"), OWNS("owns"), BLAME("blame"), IDEA("idea"), NUMBER("number");

        private static final Word[] ALL = values();

        private final long letters;

        Word(String text) {
            letters = packed(text);
        }

        private static long packed(String text) {
            long letters = 0;
            for (int i = 0; i < text.length(); i++) {
                letters = withLetter(letters, text.charAt(i));
            }
            return letters;
        }

        /** A WORD of seven letters fits a long at five bits a letter: names need no texts of their own. */
        static long withLetter(long letters, int sign) {
            return letters << 5 | (sign - 'a' + 1);
        }

        static Word of(long letters) {
            for (int i = 0; i < ALL.length; i++) {
                if (letters != 0 && ALL[i].letters == letters) {
                    return ALL[i];
                }
            }
            return NAME;
        }
    }

    /** The bytes that were fed, and the TOKEN of them that is being looked at. */
    private static final class Tape {
        static final int MOST_BYTES = 940;
        static final int BAD_KIND = 0;
        static final int WORD_KIND = 1;
        static final int NUMBER_KIND = 2;
        static final int MARK_KIND = 3;
        static final int END_KIND = 4;

        private final byte[] bytes;
        int length;
        private int limit;
        private int at;
        int kind;
        int place;
        Word word;
        long letters;
        int number;
        int taken;
        int fault;
        int faultPlace;

        Tape() {
            bytes = new byte[MOST_BYTES];
            word = Word.NOTHING;
        }

        void put(int four) {
            for (int shift = 24; shift >= 0; shift -= 8) {
                if (length >= 0 && length < MOST_BYTES) {
                    bytes[length] = (byte) (four >>> shift);
                    length++;
                }
            }
        }

        int signAt(int i) {
            return i >= 0 && i < MOST_BYTES ? bytes[i] & 255 : 0;
        }

        void open(int mostBytes) {
            limit = mostBytes;
            at = 0;
            fault = 0;
            faultPlace = 0;
            taken = 0;
            advance();
        }

        void advance() {
            word = Word.NOTHING;
            letters = 0;
            number = 0;
            while (at < length && isBlank(signAt(at))) {
                at++;
            }
            place = at;
            if (at >= limit && length > limit) {
                kind = BAD_KIND;
                place = limit;
            } else if (at >= length) {
                kind = END_KIND;
                place = length;
            } else if (isLetter(signAt(at)) || isDigit(signAt(at))) {
                readRun();
            } else {
                readMark();
            }
        }

        /** Letters and digits hang together, so that a WORD with a digit in it is no TOKEN as a whole. */
        private void readRun() {
            int letterCount = 0;
            int digitCount = 0;
            for (; at < length; at++) {
                int sign = signAt(at);
                if (isLetter(sign)) {
                    letterCount++;
                    letters = Word.withLetter(letters, sign);
                } else if (isDigit(sign)) {
                    digitCount++;
                    number = number * 10 + (sign - '0');
                } else {
                    break;
                }
            }
            if (digitCount == 0 && letterCount <= 7) {
                kind = WORD_KIND;
                word = Word.of(letters);
            } else if (letterCount == 0 && digitCount <= 3) {
                kind = NUMBER_KIND;
            } else {
                kind = BAD_KIND;
            }
        }

        private void readMark() {
            int sign = signAt(at);
            number = sign;
            kind = isMark(sign) ? MARK_KIND : BAD_KIND;
            at++;
        }

        private static boolean isBlank(int sign) {
            return sign == 32 || sign == 10;
        }

        private static boolean isLetter(int sign) {
            return sign >= 'a' && sign <= 'z';
        }

        private static boolean isDigit(int sign) {
            return sign >= '0' && sign <= '9';
        }

        private static boolean isMark(int sign) {
            return sign == ';' || sign == '<' || sign == '=' || sign == '>' || sign == '(' || sign == ')';
        }

        /** Notes a FAULT at the TOKEN here; false, so that a reader can answer with it. */
        boolean refuse(int why) {
            fault = why;
            faultPlace = place;
            return false;
        }

        boolean isMarkHere(char mark) {
            return kind == MARK_KIND && number == mark;
        }

        boolean takesMark(char mark) {
            if (!isMarkHere(mark)) {
                return refuse(CANNOT_COME);
            }
            advance();
            return true;
        }

        /** The NUMBER here is taken, if it is within the bounds. */
        boolean takesNumber(int least, int most) {
            if (kind != NUMBER_KIND) {
                return refuse(CANNOT_COME);
            }
            if (number < least || number > most) {
                return refuse(BAD_NUMBER);
            }
            taken = number;
            advance();
            return true;
        }
    }

    /** What a DUCHY's text tells, and the questions that need no more than that. */
    private static final class Duchy {
        private static final int MOST_TEXT = 900;

        int persons;
        int deeds;
        int law;
        int cell;
        int ideas;
        int gloved;
        private int both;
        final long[] personNames;
        private final int[] right;
        private final int[] left;
        private final long[] deedNames;
        final int[] hard;
        final int[] pay;
        final int[] blame;
        final int[] watchers;
        private final int[] fond;

        Duchy() {
            personNames = new long[MOST_PERSONS];
            right = new int[MOST_PERSONS];
            left = new int[MOST_PERSONS];
            watchers = new int[MOST_PERSONS];
            fond = new int[MOST_PERSONS * MOST_PERSONS];
            deedNames = new long[MOST_DEEDS];
            hard = new int[MOST_DEEDS];
            pay = new int[MOST_DEEDS];
            blame = new int[MOST_DEEDS];
            fillIn();
        }

        void copyFrom(Duchy other) {
            persons = other.persons;
            deeds = other.deeds;
            law = other.law;
            cell = other.cell;
            ideas = other.ideas;
            gloved = other.gloved;
            both = other.both;
            System.arraycopy(other.personNames, 0, personNames, 0, MOST_PERSONS);
            System.arraycopy(other.right, 0, right, 0, MOST_PERSONS);
            System.arraycopy(other.left, 0, left, 0, MOST_PERSONS);
            System.arraycopy(other.watchers, 0, watchers, 0, MOST_PERSONS);
            System.arraycopy(other.fond, 0, fond, 0, MOST_PERSONS * MOST_PERSONS);
            System.arraycopy(other.deedNames, 0, deedNames, 0, MOST_DEEDS);
            System.arraycopy(other.hard, 0, hard, 0, MOST_DEEDS);
            System.arraycopy(other.pay, 0, pay, 0, MOST_DEEDS);
            System.arraycopy(other.blame, 0, blame, 0, MOST_DEEDS);
        }

        /** How many LINES; NONE, if the text has a FAULT. */
        int readFrom(Tape text) {
            clear();
            text.open(MOST_TEXT);
            for (int lines = 0; lines <= MOST_TEXT; lines++) {
                if (text.kind == Tape.END_KIND) {
                    fillIn();
                    return lines;
                }
                boolean good;
                switch (text.word) {
                    case PERSON: good = readPerson(text); break;
                    case DEED: good = readDeed(text); break;
                    case SEES: good = readSees(text); break;
                    case FOND: good = readFond(text); break;
                    case LAW: case CELL: case IDEAS: good = readOnce(text); break;
                    default: good = text.refuse(CANNOT_COME); break;
                }
                if (!good || !text.takesMark(';')) {
                    return NONE;
                }
            }
            return NONE;
        }

        /** 0 stands for a 'law', 'cell' or 'ideas' that is not told yet, since none may be told as 0. */
        private void clear() {
            persons = 0;
            deeds = 0;
            law = 0;
            cell = 0;
            ideas = 0;
            gloved = 0;
            both = 0;
            for (int p = 0; p < MOST_PERSONS; p++) {
                watchers[p] = 0;
            }
            for (int i = 0; i < MOST_PERSONS * MOST_PERSONS; i++) {
                fond[i] = 0;
            }
        }

        private void fillIn() {
            law = law == 0 ? 10 : law;
            cell = cell == 0 ? 3 : cell;
            ideas = ideas == 0 ? 5 : ideas;
        }

        private boolean readPerson(Tape text) {
            int p = persons;
            if (p >= MOST_PERSONS) {
                return text.refuse(TOO_MANY);
            }
            text.advance();
            if (!isNewName(text)) {
                return false;
            }
            personNames[p] = text.letters;
            text.advance();
            if (!text.takesNumber(1, 9)) {
                return false;
            }
            right[p] = text.taken;
            if (!text.takesNumber(1, 9)) {
                return false;
            }
            left[p] = text.taken;
            if (text.word == Word.GLOVED) {
                gloved |= 1 << p;
                text.advance();
            }
            persons = p + 1;
            return true;
        }

        private boolean readDeed(Tape text) {
            int d = deeds;
            if (d >= MOST_DEEDS) {
                return text.refuse(TOO_MANY);
            }
            text.advance();
            if (!isNewName(text)) {
                return false;
            }
            deedNames[d] = text.letters;
            text.advance();
            if (!text.takesNumber(1, 18)) {
                return false;
            }
            hard[d] = text.taken;
            if (!text.takesNumber(0, 30)) {
                return false;
            }
            pay[d] = text.taken;
            if (!text.takesNumber(0, 9)) {
                return false;
            }
            blame[d] = text.taken;
            if (text.word == Word.BOTH) {
                both |= 1 << d;
                text.advance();
            }
            deeds = d + 1;
            return true;
        }

        private boolean readSees(Tape text) {
            int two = readTwo(text);
            if (two == NONE) {
                return false;
            }
            int p = two / MOST_PERSONS;
            int q = two % MOST_PERSONS;
            if ((watchers[q] >>> p & 1) == 1) {
                return text.refuse(BAD_NAME);
            }
            watchers[q] |= 1 << p;
            text.advance();
            return true;
        }

        private boolean readFond(Tape text) {
            int two = readTwo(text);
            if (two == NONE) {
                return false;
            }
            if (fond[two] != 0) {
                return text.refuse(BAD_NAME);
            }
            text.advance();
            if (!text.takesNumber(1, 9)) {
                return false;
            }
            fond[two] = text.taken;
            return true;
        }

        /** Two unlike PERSONS as their place in the row of all twos; it stays at the second for FAULTS. */
        private int readTwo(Tape text) {
            text.advance();
            int p = personHere(text);
            if (p == NONE) {
                return NONE;
            }
            text.advance();
            int q = personHere(text);
            if (q == NONE) {
                return NONE;
            }
            if (p == q) {
                text.refuse(BAD_NAME);
                return NONE;
            }
            return p * MOST_PERSONS + q;
        }

        private boolean readOnce(Tape text) {
            Word which = text.word;
            int told = which == Word.LAW ? law : which == Word.CELL ? cell : ideas;
            if (told != 0) {
                return text.refuse(BAD_NAME);
            }
            text.advance();
            if (!text.takesNumber(1, 30)) {
                return false;
            }
            if (which == Word.LAW) {
                law = text.taken;
            } else if (which == Word.CELL) {
                cell = text.taken;
            } else {
                ideas = text.taken;
            }
            return true;
        }

        private boolean isNewName(Tape text) {
            if (text.word != Word.NAME) {
                return text.refuse(CANNOT_COME);
            }
            if (find(personNames, persons, text.letters) != NONE
                    || find(deedNames, deeds, text.letters) != NONE) {
                return text.refuse(BAD_NAME);
            }
            return true;
        }

        /** Which PERSON the TOKEN here names; NONE and a FAULT, if it names none. */
        int personHere(Tape text) {
            return namedHere(text, personNames, persons);
        }

        int deedHere(Tape text) {
            return namedHere(text, deedNames, deeds);
        }

        private static int namedHere(Tape text, long[] names, int count) {
            if (text.word != Word.NAME) {
                text.refuse(CANNOT_COME);
                return NONE;
            }
            int found = find(names, count, text.letters);
            if (found == NONE) {
                text.refuse(BAD_NAME);
            }
            return found;
        }

        private static int find(long[] names, int count, long letters) {
            for (int i = 0; i < count && i < names.length; i++) {
                if (names[i] == letters) {
                    return i;
                }
            }
            return NONE;
        }

        int skillOf(int p, int hand) {
            if (hand == TWO_HANDS) {
                return right[p] + left[p];
            }
            return hand == RIGHT_HAND ? right[p] : left[p];
        }

        boolean needsBoth(int d) {
            return (both >>> d & 1) == 1;
        }

        boolean handsAreRight(int d, int hand) {
            return needsBoth(d) == (hand == TWO_HANDS);
        }

        boolean isEasyFor(int p, int d, int hand) {
            return handsAreRight(d, hand) && skillOf(p, hand) >= hard[d];
        }

        int fondOf(int p, int q) {
            return fond[p * MOST_PERSONS + q];
        }

        int allPersonBits() {
            return (1 << persons) - 1;
        }

        /** Of HANDS the bit is three by the PERSON and the HAND. */
        int allHandBits() {
            return (1 << persons * HANDS) - 1;
        }

        /** HANDS that could do a DEED, if nothing but their SKILL and number mattered. */
        int canBits(int d) {
            int bits = 0;
            for (int p = 0; p < persons; p++) {
                for (int hand = 0; hand < HANDS; hand++) {
                    if (isEasyFor(p, d, hand)) {
                        bits |= 1 << p * HANDS + hand;
                    }
                }
            }
            return bits;
        }

        int bestTest(int handBits) {
            int count = Integer.bitCount(handBits);
            int best = NONE;
            int least = 0;
            for (int d = 0; d < deeds; d++) {
                int can = Integer.bitCount(handBits & canBits(d));
                int apart = Math.abs(can - (count - can));
                if (best == NONE || apart < least) {
                    best = d;
                    least = apart;
                }
            }
            return best;
        }

        int watchersBetween(int p, int q) {
            int heard = 1 << p;
            for (int steps = 0; steps < MOST_PERSONS; steps++) {
                if ((heard >>> q & 1) == 1) {
                    return steps;
                }
                heard |= watchedByAny(heard);
            }
            return NONE;
        }

        private int watchedByAny(int whoBits) {
            int bits = 0;
            for (int p = 0; p < persons; p++) {
                if ((watchers[p] & whoBits) != 0) {
                    bits |= 1 << p;
                }
            }
            return bits;
        }

        int fewestGuards() {
            int all = allPersonBits();
            int best = all;
            for (int bits = 0; bits <= all; bits++) {
                if (Integer.bitCount(bits) < Integer.bitCount(best)
                        && (bits | watchedByAny(bits)) == all) {
                    best = bits;
                }
            }
            return best;
        }
    }

    /** All that is so in a DUCHY and can change; p, q and d are ones that are there. */
    private static final class Life {
        private static final int MOST_COINS = 999;
        private static final int MOST_IDEAS = 99;

        int day;
        int hadUp;
        int done;
        int gloved;
        private int seed;
        final int[] coins;
        final int[] blame;
        final int[] cell;
        final int[] ideas;
        final int[] spouse;
        final int[] hands;
        final int[] doneOf;

        Life() {
            coins = new int[MOST_PERSONS];
            blame = new int[MOST_PERSONS];
            cell = new int[MOST_PERSONS];
            ideas = new int[MOST_PERSONS];
            spouse = new int[MOST_PERSONS];
            hands = new int[MOST_PERSONS];
            doneOf = new int[MOST_DEEDS];
            begin(0);
        }

        void begin(int glovedBits) {
            day = 0;
            hadUp = 0;
            done = 0;
            gloved = glovedBits;
            for (int p = 0; p < MOST_PERSONS; p++) {
                coins[p] = 0;
                blame[p] = 0;
                cell[p] = 0;
                ideas[p] = 0;
                spouse[p] = NONE;
                hands[p] = 0;
            }
            for (int d = 0; d < MOST_DEEDS; d++) {
                doneOf[d] = 0;
            }
        }

        void copyFrom(Life other) {
            day = other.day;
            hadUp = other.hadUp;
            done = other.done;
            gloved = other.gloved;
            System.arraycopy(other.coins, 0, coins, 0, MOST_PERSONS);
            System.arraycopy(other.blame, 0, blame, 0, MOST_PERSONS);
            System.arraycopy(other.cell, 0, cell, 0, MOST_PERSONS);
            System.arraycopy(other.ideas, 0, ideas, 0, MOST_PERSONS);
            System.arraycopy(other.spouse, 0, spouse, 0, MOST_PERSONS);
            System.arraycopy(other.hands, 0, hands, 0, MOST_PERSONS);
            System.arraycopy(other.doneOf, 0, doneOf, 0, MOST_DEEDS);
        }

        boolean isJailed(int p) {
            return cell[p] > 0;
        }

        boolean isGloved(int p) {
            return (gloved >>> p & 1) == 1;
        }

        boolean isWed(int p) {
            return spouse[p] >= 0;
        }

        boolean isSeen(Duchy duchy, int p) {
            return (duchy.watchers[p] & ~jailedBits()) != 0;
        }

        int jailedBits() {
            int bits = 0;
            for (int p = 0; p < MOST_PERSONS; p++) {
                if (isJailed(p)) {
                    bits |= 1 << p;
                }
            }
            return bits;
        }

        int wedBits() {
            int bits = 0;
            for (int p = 0; p < MOST_PERSONS; p++) {
                if (isWed(p)) {
                    bits |= 1 << p;
                }
            }
            return bits;
        }

        int busyBits() {
            int bits = 0;
            for (int p = 0; p < MOST_PERSONS; p++) {
                if (hands[p] != 0) {
                    bits |= 1 << p;
                }
            }
            return bits;
        }

        int seenBits(Duchy duchy) {
            int free = ~jailedBits();
            int bits = 0;
            for (int p = 0; p < duchy.persons; p++) {
                if ((duchy.watchers[p] & free) != 0) {
                    bits |= 1 << p;
                }
            }
            return bits;
        }

        int allCoins() {
            int sum = 0;
            for (int p = 0; p < MOST_PERSONS; p++) {
                sum += coins[p];
            }
            return sum;
        }

        int daysLeft() {
            return LAST_DAY - day;
        }

        /** Why an act can't be done, 0 if it can; 'other' is a DEED, a PERSON or how many DAYS. */
        int whyNot(Duchy duchy, int verb, int p, int other, int hand) {
            switch (verb) {
                case DOING: return whyNotDo(duchy, p, other, hand);
                case WEDDING: return whyNotWed(p, other);
                case PARTING: return isWed(p) ? 0 : 1;
                case GLOVING: return isGloved(p) ? 1 : isWed(p) ? 2 : 0;
                case BARING: return isGloved(p) ? 0 : 1;
                default: return other > daysLeft() ? 1 : 0;
            }
        }

        /** Does what whyNot finds nothing against. */
        void perform(Duchy duchy, int verb, int p, int other, int hand) {
            switch (verb) {
                case DOING: doDeed(duchy, p, other, hand); break;
                case WEDDING: wedTwo(p, other); break;
                case PARTING: partFromSpouse(p); break;
                case GLOVING: gloved |= 1 << p; break;
                case BARING: gloved &= ~(1 << p); break;
                default: passDays(duchy, other); break;
            }
        }

        /** Bits of the hands that a HAND is: 1 the right, 2 the left, 3 two. */
        private static int handBits(int hand) {
            return hand + 1;
        }

        private int whyNotDo(Duchy duchy, int p, int d, int hand) {
            if (isJailed(p)) {
                return 1;
            }
            if ((hands[p] & handBits(hand)) != 0) {
                return 2;
            }
            if (!duchy.handsAreRight(d, hand)) {
                return 3;
            }
            if (duchy.skillOf(p, hand) < duchy.hard[d]) {
                return 4;
            }
            return isGloved(p) && hand != RIGHT_HAND ? 5 : 0;
        }

        private void doDeed(Duchy duchy, int p, int d, int hand) {
            coins[p] = Math.min(MOST_COINS, coins[p] + duchy.pay[d]);
            hands[p] |= handBits(hand);
            done++;
            doneOf[d]++;
            if (hand == LEFT_HAND) {
                ideas[p] = Math.min(MOST_IDEAS, ideas[p] + 1);
            } else if (isSeen(duchy, p)) {
                addBlame(duchy, p, duchy.blame[d]);
            }
        }

        private void addBlame(Duchy duchy, int p, int more) {
            blame[p] += more;
            if (blame[p] >= duchy.law) {
                cell[p] = duchy.cell;
                blame[p] = 0;
                hadUp++;
            }
        }

        private int whyNotWed(int p, int q) {
            if (p == q) {
                return 1;
            }
            if (isWed(p) || isWed(q)) {
                return 2;
            }
            if (isGloved(p) || isGloved(q)) {
                return 3;
            }
            return isJailed(p) || isJailed(q) ? 4 : 0;
        }

        private void wedTwo(int p, int q) {
            spouse[p] = q;
            spouse[q] = p;
        }

        private void partFromSpouse(int p) {
            int q = spouse[p];
            spouse[p] = NONE;
            if (q >= 0 && q < MOST_PERSONS) {
                spouse[q] = NONE;
            }
        }

        void passDays(Duchy duchy, int n) {
            for (int i = 0; i < n && day < LAST_DAY; i++) {
                passDay(duchy);
            }
        }

        private void passDay(Duchy duchy) {
            for (int p = 0; p < duchy.persons; p++) {
                int q = spouse[p];
                if (ideas[p] >= duchy.ideas && q >= 0 && q < MOST_PERSONS && coins[p] > 0) {
                    coins[p]--;
                    coins[q] = Math.min(MOST_COINS, coins[q] + 1);
                }
            }
            for (int p = 0; p < duchy.persons; p++) {
                if (isJailed(p)) {
                    cell[p]--;
                }
                hands[p] = 0;
            }
            day++;
        }

        void drawDays(Duchy duchy, int n, int firstSeed) {
            seed = firstSeed;
            for (int i = 0; i < n && day < LAST_DAY; i++) {
                for (int p = 0; p < duchy.persons; p++) {
                    drawActs(duchy, p);
                }
                passDay(duchy);
            }
        }

        private void drawActs(Duchy duchy, int p) {
            if (duchy.deeds > 0) {
                int d = draw(duchy.deeds);
                int hand = draw(HANDS);
                if (whyNotDo(duchy, p, d, hand) == 0) {
                    doDeed(duchy, p, d, hand);
                }
            }
            int turn = draw(8);
            if (turn == 0) {
                int q = draw(duchy.persons);
                if (whyNotWed(p, q) == 0) {
                    wedTwo(p, q);
                }
            } else if (turn == 1) {
                partFromSpouse(p);
            }
        }

        private int draw(int n) {
            seed = seed * 1103515245 + 12345;
            return n > 0 ? (seed >>> 8) % n : 0;
        }

        int ableBits(Duchy duchy, int p, int d) {
            int bits = 0;
            for (int hand = 0; hand < HANDS; hand++) {
                if (whyNotDo(duchy, p, d, hand) == 0) {
                    bits |= 1 << hand;
                }
            }
            return bits;
        }

        private static boolean isBlameless(Duchy duchy, boolean seen, int d, int hand) {
            return hand == LEFT_HAND || !seen || duchy.blame[d] == 0;
        }

        /** HANDS, three by the PERSON and the HAND as bits, that could do a DEED now without blame. */
        int blamelessBits(Duchy duchy, int d) {
            int seen = seenBits(duchy);
            int bits = 0;
            for (int p = 0; p < duchy.persons; p++) {
                boolean isSeen = (seen >>> p & 1) == 1;
                for (int hand = 0; hand < HANDS; hand++) {
                    if (isBlameless(duchy, isSeen, d, hand) && whyNotDo(duchy, p, d, hand) == 0) {
                        bits |= 1 << p * HANDS + hand;
                    }
                }
            }
            return bits;
        }

        int mostPay(Duchy duchy, int p) {
            int one = mostPayOf(duchy, p, RIGHT_HAND);
            if (isGloved(p)) {
                return one;
            }
            return Math.max(mostPayOf(duchy, p, TWO_HANDS), one + mostPayOf(duchy, p, LEFT_HAND));
        }

        private int mostPayOf(Duchy duchy, int p, int hand) {
            boolean seen = isSeen(duchy, p);
            int most = 0;
            for (int d = 0; d < duchy.deeds; d++) {
                if (duchy.isEasyFor(p, d, hand) && isBlameless(duchy, seen, d, hand)) {
                    most = Math.max(most, duchy.pay[d]);
                }
            }
            return most;
        }
    }

    /** The lives ahead of the latest acts, as far as they are kept. */
    private static final class Past {
        private static final int MOST_KEPT = 8;

        private final Life[] lives;
        private int first;
        private int count;

        Past() {
            lives = new Life[MOST_KEPT];
            for (int i = 0; i < MOST_KEPT; i++) {
                lives[i] = new Life();
            }
        }

        void forget() {
            count = 0;
        }

        /** The oldest one gives way, if there is no room. */
        void keep(Life life) {
            if (count == MOST_KEPT) {
                first = (first + 1) % MOST_KEPT;
                count--;
            }
            lives[(first + count) % MOST_KEPT].copyFrom(life);
            count++;
        }

        int takeBack(Life life) {
            if (count == 0) {
                return NONE;
            }
            count--;
            life.copyFrom(lives[(first + count) % MOST_KEPT]);
            return count;
        }
    }

    /** The LINES of a BOOK, and how the latest one without a FAULT went. */
    private static final class Book {
        private static final int MOST_TEXT = 400;
        private static final int MOST_LINES = 40;

        private final int[] verbs;
        private final int[] doers;
        private final int[] others;
        private final int[] hands;
        private int lines;
        boolean judged;
        int wrongLine;
        int why;
        int goodLines;
        int dayThen;
        int jailedThen;

        Book() {
            verbs = new int[MOST_LINES];
            doers = new int[MOST_LINES];
            others = new int[MOST_LINES];
            hands = new int[MOST_LINES];
        }

        void readFrom(Tape text, Duchy duchy) {
            lines = 0;
            text.open(MOST_TEXT);
            for (int i = 0; i <= MOST_LINES; i++) {
                if (text.kind == Tape.END_KIND) {
                    return;
                }
                boolean good = text.word == Word.DAY ? readDay(text) : readAct(text, duchy);
                if (!good || !text.takesMark(';')) {
                    return;
                }
            }
        }

        private boolean readDay(Tape text) {
            if (lines >= MOST_LINES) {
                return text.refuse(TOO_MANY);
            }
            text.advance();
            if (!text.takesNumber(1, MOST_DAYS_AT_ONCE)) {
                return false;
            }
            addLine(WAITING, 0, text.taken, 0);
            return true;
        }

        private boolean readAct(Tape text, Duchy duchy) {
            int p = duchy.personHere(text);
            if (p == NONE) {
                return false;
            }
            if (lines >= MOST_LINES) {
                return text.refuse(TOO_MANY);
            }
            text.advance();
            Word verb = text.word;
            switch (verb) {
                case DOES: return readDoes(text, duchy, p);
                case WEDS: return readWeds(text, duchy, p);
                case PARTS: addLine(PARTING, p, 0, 0); break;
                case GLOVES: addLine(GLOVING, p, 0, 0); break;
                case BARES: addLine(BARING, p, 0, 0); break;
                default: return text.refuse(CANNOT_COME);
            }
            text.advance();
            return true;
        }

        private boolean readDoes(Tape text, Duchy duchy, int p) {
            text.advance();
            int d = duchy.deedHere(text);
            if (d == NONE) {
                return false;
            }
            text.advance();
            switch (text.word) {
                case RIGHT: addLine(DOING, p, d, RIGHT_HAND); break;
                case LEFT: addLine(DOING, p, d, LEFT_HAND); break;
                case TWO: addLine(DOING, p, d, TWO_HANDS); break;
                default: return text.refuse(CANNOT_COME);
            }
            text.advance();
            return true;
        }

        private boolean readWeds(Tape text, Duchy duchy, int p) {
            text.advance();
            int q = duchy.personHere(text);
            if (q == NONE) {
                return false;
            }
            addLine(WEDDING, p, q, 0);
            text.advance();
            return true;
        }

        private void addLine(int verb, int doer, int other, int hand) {
            if (lines < MOST_LINES) {
                verbs[lines] = verb;
                doers[lines] = doer;
                others[lines] = other;
                hands[lines] = hand;
                lines++;
            }
        }

        /** Lives the LINES in a life as far as none is WRONG. */
        void liveIn(Life life, Duchy duchy) {
            why = 0;
            wrongLine = NONE;
            goodLines = 0;
            for (int i = 0; i < lines && why == 0; i++) {
                int reason = life.whyNot(duchy, verbs[i], doers[i], others[i], hands[i]);
                if (reason == 0) {
                    life.perform(duchy, verbs[i], doers[i], others[i], hands[i]);
                    goodLines++;
                } else {
                    why = verbs[i] + reason;
                    wrongLine = i;
                }
            }
            dayThen = life.day;
            jailedThen = life.jailedBits();
            judged = true;
        }
    }

    /** A SENTENCE as steps, each behind what it is about, so that it is judged along one row. */
    private static final class Sentence {
        private static final int MOST_TEXT = 200;
        private static final int MOST_ONES = 20;
        private static final int MOST_WITHIN = 8;
        private static final int MOST_STEPS = 2 * MOST_ONES;

        int ones;
        private int steps;
        private final Word[] words;
        private final int[] signs;
        private final int[] numbers;
        private final int[] stack;

        Sentence() {
            words = new Word[MOST_STEPS];
            for (int i = 0; i < MOST_STEPS; i++) {
                words[i] = Word.NOTHING;
            }
            signs = new int[MOST_STEPS];
            numbers = new int[MOST_STEPS];
            stack = new int[MOST_STEPS];
        }

        void clear() {
            ones = 0;
            steps = 0;
        }

        void copyFrom(Sentence other) {
            ones = other.ones;
            steps = other.steps;
            for (int i = 0; i < MOST_STEPS; i++) {
                words[i] = other.words[i];
                signs[i] = other.signs[i];
                numbers[i] = other.numbers[i];
            }
        }

        void readFrom(Tape text, Duchy duchy) {
            clear();
            text.open(MOST_TEXT);
            if (readCond(text, duchy, 1) && text.kind != Tape.END_KIND) {
                text.refuse(CANNOT_COME);
            }
        }

        private boolean readCond(Tape text, Duchy duchy, int depth) {
            boolean good = readAll(text, duchy, depth);
            for (int i = 0; i < MOST_ONES && good && text.word == Word.OR; i++) {
                text.advance();
                good = readAll(text, duchy, depth);
                addStep(Word.OR, 0, 0);
            }
            return good;
        }

        private boolean readAll(Tape text, Duchy duchy, int depth) {
            boolean good = readOne(text, duchy, depth);
            for (int i = 0; i < MOST_ONES && good && text.word == Word.AND; i++) {
                text.advance();
                good = readOne(text, duchy, depth);
                addStep(Word.AND, 0, 0);
            }
            return good;
        }

        private boolean readOne(Tape text, Duchy duchy, int depth) {
            boolean bracket = text.isMarkHere('(');
            if (!bracket && !beginsOne(text.word)) {
                return text.refuse(CANNOT_COME);
            }
            if (ones >= MOST_ONES || depth > MOST_WITHIN) {
                return text.refuse(TOO_MANY);
            }
            ones++;
            Word word = text.word;
            text.advance();
            if (bracket) {
                return readCond(text, duchy, depth + 1) && text.takesMark(')');
            }
            switch (word) {
                case NOT:
                    boolean good = readOne(text, duchy, depth + 1);
                    addStep(word, 0, 0);
                    return good;
                case TO: return readTo(text, duchy);
                case OWNS: case BLAME: case IDEA: case NUMBER: return readMeasure(text, word);
                default: addStep(word, 0, 0); return true;
            }
        }

        private static boolean beginsOne(Word word) {
            switch (word) {
                case NOT: case JAILED: case GLOVED: case WED: case BUSY: case SEEN: case TO:
                case OWNS: case BLAME: case IDEA: case NUMBER: return true;
                default: return false;
            }
        }

        private boolean readTo(Tape text, Duchy duchy) {
            int p = duchy.personHere(text);
            if (p == NONE) {
                return false;
            }
            addStep(Word.TO, '=', p);
            text.advance();
            return true;
        }

        private boolean readMeasure(Tape text, Word word) {
            int sign = text.number;
            if (!text.isMarkHere('<') && !text.isMarkHere('=') && !text.isMarkHere('>')) {
                return text.refuse(CANNOT_COME);
            }
            text.advance();
            if (!text.takesNumber(0, 999)) {
                return false;
            }
            addStep(word, sign, text.taken);
            return true;
        }

        private void addStep(Word word, int sign, int number) {
            if (steps < MOST_STEPS) {
                words[steps] = word;
                signs[steps] = sign;
                numbers[steps] = number;
                steps++;
            }
        }

        /** PERSONS of whom it may be said, as bits: each step is judged of all of them at once. */
        int trueOf(Duchy duchy, Life life) {
            int all = duchy.allPersonBits();
            int top = 0;
            for (int i = 0; i < steps; i++) {
                Word word = words[i];
                if (word == Word.AND || word == Word.OR) {
                    top--;
                    if (top < 1) {
                        return 0;
                    }
                    int other = stack[top];
                    stack[top - 1] = word == Word.AND ? stack[top - 1] & other : stack[top - 1] | other;
                } else if (word == Word.NOT) {
                    if (top < 1) {
                        return 0;
                    }
                    stack[top - 1] = all & ~stack[top - 1];
                } else if (top < MOST_STEPS) {
                    stack[top] = bitsOf(i, duchy, life);
                    top++;
                }
            }
            return top == 1 ? stack[0] : 0;
        }

        private int bitsOf(int step, Duchy duchy, Life life) {
            switch (words[step]) {
                case JAILED: return life.jailedBits();
                case GLOVED: return life.gloved;
                case WED: return life.wedBits();
                case BUSY: return life.busyBits();
                case SEEN: return life.seenBits(duchy);
                default: return measureBits(step, duchy, life);
            }
        }

        private int measureBits(int step, Duchy duchy, Life life) {
            int bits = 0;
            for (int p = 0; p < duchy.persons; p++) {
                if (holds(measureOf(words[step], life, p), signs[step], numbers[step])) {
                    bits |= 1 << p;
                }
            }
            return bits;
        }

        private static int measureOf(Word word, Life life, int p) {
            switch (word) {
                case TO: return life.spouse[p];
                case OWNS: return life.coins[p];
                case BLAME: return life.blame[p];
                case IDEA: return life.ideas[p];
                default: return p;
            }
        }

        private static boolean holds(int value, int sign, int number) {
            if (sign == '<') {
                return value < number;
            }
            return sign == '>' ? value > number : value == number;
        }
    }

    /** DEEDS of a tape parted between HANDS so that nobody is blamed. */
    private static final class Parted {
        final int[] can;
        private final int[] possible;
        private final int[] tried;
        private final int[] places;
        private int count;
        private int most;

        Parted() {
            can = new int[MOST_PARTED];
            possible = new int[MOST_PARTED + 1];
            tried = new int[MOST_PARTED];
            places = new int[MOST_PARTED];
        }

        void begin(int deeds) {
            count = Math.max(0, Math.min(deeds, MOST_PARTED));
            most = -1;
        }

        int solve() {
            possible[count] = 0;
            for (int k = count - 1; k >= 0; k--) {
                possible[k] = possible[k + 1] + (can[k] != 0 ? 1 : 0);
            }
            search(0, (1 << MOST_PERSONS * HANDS) - 1, 0);
            return most;
        }

        /** Tries go from the first to the last, so that of like ones the first stays. */
        private void search(int k, int free, int done) {
            if (done + possible[k] <= most) {
                return;
            }
            if (k >= count) {
                most = done;
                System.arraycopy(tried, 0, places, 0, count);
                return;
            }
            int choice = can[k] & free;
            for (int place = 0; place < MOST_PERSONS * HANDS; place++) {
                if ((choice >>> place & 1) == 1) {
                    tried[k] = place;
                    search(k + 1, free & ~takenBy(place), done + 1);
                }
            }
            tried[k] = NONE;
            search(k + 1, free, done);
        }

        /** One HAND leaves a PERSON neither it nor two, two leave none. */
        private static int takenBy(int place) {
            int hand = place % HANDS;
            int taken = hand == TWO_HANDS ? 7 : 1 << hand | 1 << TWO_HANDS;
            return taken << place - hand;
        }

        int placeOf(int k) {
            return k >= 0 && k < count ? places[k] : NONE;
        }
    }

    /** Which lefts would best be wed. */
    private static final class Pairs {
        final int[] partnerOf;
        private final int[] tried;
        private final int[] joy;
        private int persons;
        private int most;

        Pairs() {
            partnerOf = new int[MOST_PERSONS];
            tried = new int[MOST_PERSONS];
            joy = new int[MOST_PERSONS * MOST_PERSONS];
            for (int p = 0; p < MOST_PERSONS; p++) {
                partnerOf[p] = NONE;
            }
        }

        int solve(Duchy duchy, Life life) {
            persons = duchy.persons;
            most = -1;
            int barred = life.wedBits() | life.gloved | life.jailedBits();
            for (int p = 0; p < persons; p++) {
                tried[p] = NONE;
                for (int q = 0; q < persons; q++) {
                    boolean both = (barred >>> p & 1) == 0 && (barred >>> q & 1) == 0
                            && duchy.fondOf(p, q) > 0 && duchy.fondOf(q, p) > 0;
                    joy[p * MOST_PERSONS + q] = both ? duchy.fondOf(p, q) + duchy.fondOf(q, p) : 0;
                }
            }
            for (int p = 0; p < MOST_PERSONS; p++) {
                partnerOf[p] = NONE;
            }
            search(0, 0);
            return most;
        }

        /** Tries go from the first to the last, so that of like ones the first stays. */
        private void search(int p, int sum) {
            if (p >= persons) {
                if (sum > most) {
                    most = sum;
                    System.arraycopy(tried, 0, partnerOf, 0, persons);
                }
                return;
            }
            if (tried[p] != NONE) {
                search(p + 1, sum);
                return;
            }
            for (int q = p + 1; q < persons; q++) {
                int more = joy[p * MOST_PERSONS + q];
                if (more > 0 && tried[q] == NONE) {
                    tried[p] = q;
                    tried[q] = p;
                    search(p + 1, sum + more);
                    tried[p] = NONE;
                    tried[q] = NONE;
                }
            }
            search(p + 1, sum);
        }
    }

    /** The latest SLIP, as bytes. */
    private static final class Slip {
        private static final int MOST_BYTES = 64;

        final byte[] bytes;
        int length;

        Slip() {
            bytes = new byte[MOST_BYTES];
        }

        void write(Duchy duchy, Life life, int p) {
            length = 0;
            putName(duchy.personNames[p]);
            putText(" owns ");
            putNumber(life.coins[p]);
            if (life.isJailed(p)) {
                putText(" in cell ");
                putNumber(life.cell[p]);
            }
            if (life.isGloved(p)) {
                putText(" gloved");
            }
            int q = life.spouse[p];
            if (q >= 0 && q < MOST_PERSONS) {
                putText(" wed to ");
                putName(duchy.personNames[q]);
            }
        }

        private void putSign(int sign) {
            if (length < MOST_BYTES) {
                bytes[length] = (byte) sign;
                length++;
            }
        }

        private void putText(String text) {
            for (int i = 0; i < text.length(); i++) {
                putSign(text.charAt(i));
            }
        }

        private void putName(long letters) {
            for (int shift = 30; shift >= 0; shift -= 5) {
                int letter = (int) (letters >>> shift & 31);
                if (letter != 0) {
                    putSign('a' + letter - 1);
                }
            }
        }

        private void putNumber(int number) {
            if (number >= 100) {
                putSign('0' + number / 100 % 10);
            }
            if (number >= 10) {
                putSign('0' + number / 10 % 10);
            }
            putSign('0' + number % 10);
        }
    }

    /** DUCHY, life and SENTENCE as they were at one time. */
    private static final class Image {
        boolean kept;
        private final Duchy duchy;
        private final Life life;
        private final Sentence sentence;

        Image() {
            duchy = new Duchy();
            life = new Life();
            sentence = new Sentence();
        }

        void keep(Duchy fromDuchy, Life fromLife, Sentence fromSentence) {
            duchy.copyFrom(fromDuchy);
            life.copyFrom(fromLife);
            sentence.copyFrom(fromSentence);
            kept = true;
        }

        void giveBack(Duchy toDuchy, Life toLife, Sentence toSentence) {
            toDuchy.copyFrom(duchy);
            toLife.copyFrom(life);
            toSentence.copyFrom(sentence);
        }
    }
}
