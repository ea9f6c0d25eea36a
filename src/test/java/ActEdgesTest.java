/** Promises 1 to 17: each sentence under their headings that names an edge, by itself. */
public final class ActEdgesTest {
    private static final int[] FAR = {-1, Integer.MIN_VALUE, Integer.MAX_VALUE, 1 << 16, 256, -256, 7, 8};

    private final Check check = new Check();

    public static void main(String[] args) {
        ActEdgesTest test = new ActEdgesTest();
        test.newObject();
        test.manyCalls();
        test.feeding();
        test.ending();
        test.duchyOfTheTape();
        test.emptyHereAndBelow();
        test.faultOfTheLatest();
        test.persons();
        test.skills();
        test.deeds();
        test.now();
        test.does();
        test.weds();
        test.partsGlovesBares();
        test.days();
        test.undoes();
        test.undoesNothing();
        test.able();
        test.check.duePromises(1, 17);
        test.check.close("ActEdgesTest");
    }

    private void newObject() {
        check.promises(1, "A DUCHY without PERSONS; an empty tape.");
        LeftAnswers x = new LeftAnswers();
        check.dueRow("count", new int[] {x.count(0), x.count(1), x.count(2), x.count(3), x.count(4), x.count(5)},
                0, 0, 10, 3, 5, 0);
        for (int what = 0; what < 8; what++) {
            check.due("now(" + what + ")", x.now(what), 0);
            check.due("person(0, " + what + ") throws", Check.throwsNoSuchElement(x, 0, what), true);
        }
        check.due("nobody does", x.does(0, 0, 0), -1);
        check.due("an empty DUCHY", x.duchy(), 0);
    }

    private void manyCalls() {
        check.says("An object is used for at most 512 calls after it has been made");
        LeftAnswers x = new LeftAnswers();
        for (int call = 1; call <= 511; call++) {
            x.feed(0x6c617720, 0x353b2020, 0x20202020, 0x20202020, 0x20202020);
        }
        check.due("the 512th is answered", x.duchy(), -7 - 14);
        x = new LeftAnswers();
        for (int call = 1; call <= 400; call++) {
            x.days(1);
        }
        for (int call = 401; call <= 407; call++) {
            check.due("undo()", x.undo(), 408 - call);
        }
        for (int call = 408; call <= 511; call++) {
            x.drawn(1, call);
        }
        check.due("the 512th is answered", x.now(0), 393);
    }

    private void feeding() {
        check.promises(2, "Twenty bytes come behind the tape, of each number the highest first: how many it has");
        LeftAnswers x = new LeftAnswers();
        check.due("twenty", x.feed(0x706572ff, 0, 0, 0, 0), 20);
        check.due("three stay", x.end(3), true);
        check.due("behind them", x.feed(0x736f6e20, 0x61203120, 0x39206761, 0x6e643b3b, 0xffffffff), 23);
        check.due("read in order", x.duchy(), -1 - 13);
        check.due("the number ahead of it came", x.feed(0x70657273, 0x6f6e2061, 0x20312039, 0x3b0a0a0a, 0x0a0a0a0a), 20);
        check.due("one person", x.duchy(), 1);
        check.due("the last byte of a number", x.skill(0, 1), 9);
        x = Check.duchyOf("person a 1 1;deed d 1 1 1;deed e 1 1 1;");
        x.feed(0x00010001, 0, 0, 0, 0x01020304);
        check.due("four", x.end(4), true);
        check.due("each a deed", x.parted(), 2);
        x.feed(0x80000000, 0, 0, 0, 0);
        x.end(1);
        check.due("128 is no deed", x.parted(), -1);

        check.promises(2, "NONE, and none come, if it would have more than 940");
        x = new LeftAnswers();
        for (int n = 20; n <= 940; n += 20) {
            check.due("feed", x.feed(0, 0, 0, 0, 0), n);
        }
        check.due("full", x.feed(1, 1, 1, 1, 1), -1);
        check.due("none came", x.count(5), 940);
        x.end(921);
        check.due("one too many", x.feed(1, 1, 1, 1, 1), -1);
        check.due("none came", x.count(5), 921);
        x.end(920);
        check.due("just so many", x.feed(1, 1, 1, 1, 1), 940);
    }

    private void ending() {
        check.promises(3, "The tape has its first n bytes alone: true");
        LeftAnswers x = new LeftAnswers();
        check.due("end(0) of an empty tape", x.end(0), true);
        Check.feed(x, "law 5;cell 6;");
        check.due("all", x.end(13), true);
        check.due("all", x.count(5), 13);
        check.due("the first six", x.end(6), true);
        check.due("the first six", x.count(5), 6);
        check.due("those", x.duchy(), 1);
        check.due("law", x.count(2), 5);
        check.due("no cell", x.count(3), 3);
        Check.feed(x, "abc");
        check.due("none", x.end(0), true);
        check.due("none", x.count(5), 0);
        nothingBehindTheEnd();

        check.promises(3, "false, if it has not so many, or n is below 0");
        x.feed(0, 0, 0, 0, 0);
        check.due("one too many", x.end(21), false);
        check.due("far too many", x.end(Integer.MAX_VALUE), false);
        check.due("below 0", x.end(-1), false);
        check.due("far below 0", x.end(Integer.MIN_VALUE), false);
        check.due("all stay", x.count(5), 20);
        x.end(5);
        check.due("what is gone stays gone", x.end(6), false);
        check.due("five stay", x.count(5), 5);
    }

    /** What was fed behind the end is no part of the tape, whoever reads it. */
    private void nothingBehindTheEnd() {
        LeftAnswers x = Check.duchyOf("person a 5 5;deed d 1 1 0;");
        x.feed(0x00ffffff, -1, -1, -1, -1);
        x.end(1);
        check.due("one deed", x.parted(), 1);
        x.feed(0x0001ffff, -1, -1, -1, -1);
        x.end(2);
        check.due("one pair", x.fits(), 2);
        Check.feed(x, "day 60;!");
        x.end(5);
        check.due("no more digits", x.book(0), -2 - 5);
        Check.feed(x, "day 6;!");
        x.end(6);
        check.due("no more signs", x.book(0), -1);
        Check.feed(x, "weds");
        x.end(3);
        check.due("no more letters", x.sentence(), 1);
        Check.feed(x, "law 5;   ");
        x.end(6);
        check.due("no more blanks", x.duchy(), 1);
        Check.feed(x, "law    ");
        x.end(4);
        check.due("no more blanks", x.duchy(), -1 - 4);
    }

    private void duchyOfTheTape() {
        check.promises(4, "is the DUCHY now: how many LINES");
        LeftAnswers x = Check.duchyOf(Check.ANN_TO_DOT);
        check.due("no lines", x.duchy(), 0);
        check.due("nobody", x.count(0), 0);
        check.due("law", x.count(2), 10);
        check.due("twenty lines", Check.duchy(x, Check.ANN_TO_DOT), 20);
        check.due("four persons", x.count(0), 4);

        check.promises(4, "-1 less the place of a FAULT: it stays");
        x.does(0, 0, 0);
        x.days(1);
        x.wed(0, 1);
        Check.sentence(x, "wed");
        check.due("a fault at 0", Check.duchy(x, "!"), -1);
        check.due("a fault at 6", Check.duchy(x, "law 7;!"), -7);
        check.due("a fault at 900", Check.duchy(x, " ".repeat(901)), -901);
        check.due("a fault at the end", Check.duchy(x, "person zoe 1 2;law 7;cell 8;ideas 9"), -36);
        check.dueRow("it stays", new int[] {x.count(0), x.count(1), x.count(2), x.count(3), x.count(4), x.skill(0, 0),
            x.deed(0, 4), x.now(0), x.now(2), x.now(3), x.now(4), x.now(5), x.said(-1), x.best(), x.hears(2, 1)},
            4, 4, 5, 2, 1, 5, 1, 1, 4, 3, 11, 6, 2, 0, 2);
        check.due("names stay", Check.book(x, "bob does kiss left;zoe parts;", 0), -2 - 19);
        check.due("acts can be undone still", x.undo(), 2);
    }

    private void emptyHereAndBelow() {
        check.promises(4, "The tape (empty then, here and below)");
        String[] texts = {"", "law 5;", "wed", "day 1;", "!", "\0\1", "\0", "\0\0\0\0\0", " ".repeat(940)};
        for (String text : texts) {
            for (int call = 0; call < 6; call++) {
                LeftAnswers x = Check.duchyOf(Check.ANN_TO_DOT);
                Check.feed(x, text);
                check.due("the tape ahead", x.count(5), text.length());
                switch (call) {
                    case 0: x.duchy(); break;
                    case 1: x.parted(); break;
                    case 2: x.fits(); break;
                    case 3: x.book(0); break;
                    case 4: x.book(1); break;
                    default: x.sentence(); break;
                }
                check.due("the tape behind call " + call + " of: " + text, x.count(5), 0);
            }
        }
    }

    private void faultOfTheLatest() {
        check.promises(5, "The kind of the FAULT of the latest duchy(), book() or sentence()");
        LeftAnswers x = Check.duchyOf(Check.ANN_TO_DOT);
        String[] duchies = {"!", "law 0;", "law 1;law 1;", "person a 1 1;person b 1 1;person c 1 1;person d 1 1;"
            + "person e 1 1;person f 1 1;person g 1 1;person h 1 1;"};
        String[] books = {"!", "day 0;", "zoe parts;", "day 1;".repeat(41)};
        for (int kind = 1; kind <= 4; kind++) {
            Check.duchy(x, duchies[kind - 1]);
            check.due("of a duchy", x.fault(), kind);
            Check.sentence(x, "wed");
            check.due("of a sentence", x.fault(), 0);
            Check.book(x, books[kind - 1], 0);
            check.due("of a book", x.fault(), kind);
            Check.book(x, "ann parts;", 1);
            check.due("a wrong line is none", x.fault(), 0);
        }
        Check.sentence(x, "to zoe");
        check.due("of a sentence", x.fault(), 3);
        check.due("parted() tells none", Check.parted(x, 9), -1);
        check.due("fits() tells none", Check.fits(x, 9), -1);
        check.due("the latest still", x.fault(), 3);
        Check.sentence(x, "not ".repeat(8) + "wed");
        check.due("of a sentence", x.fault(), 4);
        Check.duchy(x, "law 5;");
        check.due("of a duchy without", x.fault(), 0);

        check.promises(5, "(a book() of -1000 leaves it)");
        Check.duchy(x, "law 0;");
        check.due("book(2)", x.book(2), -1000);
        check.due("book(-1)", x.book(-1), -1000);
        check.due("left", x.fault(), 2);

        check.promises(5, "0 without one and ahead of any");
        check.due("without one", Check.duchy(x, "law 1;"), 1);
        check.due("without one", x.fault(), 0);
        x = new LeftAnswers();
        check.due("ahead of any", x.fault(), 0);
        x.book(5);
        check.due("ahead of any still", x.fault(), 0);
    }

    private void persons() {
        check.promises(6, "0 coins, 1 blame, 2 DAYS in the cell (0: not JAILED), 3 ideas, 4 to whom he is wed (NONE), 5 GLOVED (1, 0), 6 hands that did something today, as bits (1 the right, 2 the left), 7 SEEN (1, 0)");
        LeftAnswers x = Check.duchyOf(Check.ANN_TO_DOT);
        check.dueRow("cid at first", person(x, 2), 0, 0, 0, 0, -1, 1, 0, 0);
        check.dueRow("dot at first", person(x, 3), 0, 0, 0, 0, -1, 0, 0, 1);
        x.wed(3, 0);
        x.does(3, 1, 0);
        x.does(0, 3, 1);
        x.does(1, 2, 2);
        check.dueRow("ann", person(x, 0), 2, 0, 0, 1, 3, 0, 2, 1);
        check.dueRow("bob", person(x, 1), 5, 0, 0, 0, -1, 0, 3, 1);
        check.dueRow("dot", person(x, 3), 9, 4, 0, 0, 0, 0, 1, 1);
        x.days(1);
        x.does(3, 3, 0);
        check.dueRow("dot is had up", person(x, 3), 12, 0, 2, 0, 0, 0, 1, 1);

        check.promises(6, "NoSuchElementException: no such ones.");
        for (int far : FAR) {
            check.due("person(" + far + ", 0) throws", Check.throwsNoSuchElement(x, far, 0), true);
            check.due("person(0, " + far + ") throws", Check.throwsNoSuchElement(x, 0, far), far != 7);
            check.due("person(" + far + ", " + far + ") throws", Check.throwsNoSuchElement(x, far, far), true);
        }
        check.due("the last one", Check.throwsNoSuchElement(x, 3, 7), false);
        check.due("one more", Check.throwsNoSuchElement(x, 4, 7), true);
    }

    private static int[] person(LeftAnswers x, int p) {
        int[] row = new int[8];
        for (int what = 0; what < 8; what++) {
            row[what] = x.person(p, what);
        }
        return row;
    }

    private void skills() {
        check.promises(7, "The SKILL of HANDS of a PERSON (0 right, 1 left, 2 two); NONE: no such ones.");
        LeftAnswers x = Check.duchyOf("person a 9 8;person b 1 2;");
        check.dueRow("b", new int[] {x.skill(1, 0), x.skill(1, 1), x.skill(1, 2)}, 1, 2, 3);
        check.due("one hand more", x.skill(1, 3), -1);
        check.due("one person more", x.skill(2, 0), -1);
        for (int far : FAR) {
            check.due("skill(" + far + ", 0)", x.skill(far, 0), -1);
            check.due("skill(0, " + far + ")", x.skill(0, far), -1);
        }
    }

    private void deeds() {
        check.promises(8, "0 how HARD, 1 PAY, 2 BLAME, 3 it needs both (1, 0), 4 how often it was done so far. NONE: no such ones.");
        LeftAnswers x = Check.duchyOf("person a 9 9;deed d 18 30 9 both;deed e 1 0 0;");
        x.does(0, 1, 1);
        x.does(0, 1, 0);
        x.days(1);
        x.does(0, 0, 2);
        x.does(0, 0, 2);
        check.dueRow("d", deed(x, 0), 18, 30, 9, 1, 1);
        check.dueRow("e", deed(x, 1), 1, 0, 0, 0, 2);
        check.due("one more to ask", x.deed(1, 5), -1);
        check.due("one deed more", x.deed(2, 0), -1);
        for (int far : FAR) {
            check.due("deed(" + far + ", 0)", x.deed(far, 0), -1);
            check.due("deed(0, " + far + ")", x.deed(0, far), -1);
        }
    }

    private static int[] deed(LeftAnswers x, int d) {
        return new int[] {x.deed(d, 0), x.deed(d, 1), x.deed(d, 2), x.deed(d, 3), x.deed(d, 4)};
    }

    private void now() {
        check.promises(9, "0 the DAY, 1 who is JAILED, 2 GLOVED, 3 wed, 4 SEEN, as bits each, 5 all coins, 6 how often one was had up so far, 7 DEEDS done so far.");
        LeftAnswers x = Check.duchyOf("person a 9 9;person b 9 9;person c 9 9;person d 9 9;person e 9 9;person f 9 9;person g 9 9;"
                + "deed bad 1 30 9;sees a g;sees a f;sees g a;law 9;cell 1;");
        for (int p = 0; p < 7; p++) {
            x.does(p, 0, 0);
            x.does(p, 0, 1);
        }
        x.wed(1, 2);
        x.glove(3);
        x.glove(4);
        check.dueRow("now", now(x), 0, 1, 24, 6, 1, 390, 1, 13);
        x.days(2);
        x.does(5, 0, 0);
        x.does(6, 0, 0);
        check.dueRow("now", now(x), 2, 96, 24, 6, 96, 450, 3, 15);

        check.promises(9, "NONE for another what");
        for (int far : FAR) {
            check.due("now(" + far + ")", x.now(far), far == 7 ? 15 : -1);
        }
    }

    private static int[] now(LeftAnswers x) {
        int[] row = new int[8];
        for (int what = 0; what < 8; what++) {
            row[what] = x.now(what);
        }
        return row;
    }

    private void does() {
        check.promises(10, "A PERSON DOES a DEED with a HAND: 0, or why not; NONE: no such ones.");
        LeftAnswers x = Check.duchyOf("person a 9 9;deed d 1 1 0;");
        check.due("one person more", x.does(1, 0, 0), -1);
        check.due("one deed more", x.does(0, 1, 0), -1);
        check.due("one hand more", x.does(0, 0, 3), -1);
        for (int far : FAR) {
            check.due("does(" + far + ", 0, 0)", x.does(far, 0, 0), -1);
            check.due("does(0, " + far + ", 0)", x.does(0, far, 0), -1);
            check.due("does(0, 0, " + far + ")", x.does(0, 0, far), -1);
        }
        check.due("why not", x.does(0, 0, 2), 3);
        check.dueRow("nothing was done", now(x), 0, 0, 0, 0, 0, 0, 0, 0);
        check.due("0", x.does(0, 0, 0), 0);
        check.due("it was done", x.now(7), 1);
    }

    private void weds() {
        check.promises(11, "He WEDS a PERSON: 0, or why not; NONE: no such ones.");
        LeftAnswers x = Check.duchyOf("person a 9 9;person b 9 9;");
        check.due("one more", x.wed(0, 2), -1);
        check.due("one more", x.wed(2, 0), -1);
        check.due("one more, alike", x.wed(2, 2), -1);
        for (int far : FAR) {
            check.due("wed(" + far + ", 0)", x.wed(far, 0), -1);
            check.due("wed(0, " + far + ")", x.wed(0, far), -1);
        }
        check.due("why not", x.wed(1, 1), 1);
        check.due("nobody is", x.now(3), 0);
        check.due("0", x.wed(1, 0), 0);
        check.due("both are", x.now(3), 3);
    }

    private void partsGlovesBares() {
        LeftAnswers x = Check.duchyOf("person a 9 9;person b 9 9;");
        x.wed(0, 1);
        check.promises(12, "He PARTS: 0, or why not; NONE: no such one.");
        check.due("one more", x.part(2), -1);
        for (int far : FAR) {
            check.due("part(" + far + ")", x.part(far), -1);
        }
        check.due("wed still", x.now(3), 3);
        check.due("0", x.part(0), 0);
        check.due("why not", x.part(0), 1);

        check.promises(13, "He is GLOVED: 0, or why not; NONE: no such one.");
        check.due("one more", x.glove(2), -1);
        for (int far : FAR) {
            check.due("glove(" + far + ")", x.glove(far), -1);
        }
        check.due("nobody", x.now(2), 0);
        check.due("0", x.glove(1), 0);
        check.due("why not", x.glove(1), 1);

        check.promises(14, "He is BARED: 0, or why not; NONE: no such one.");
        check.due("one more", x.bare(2), -1);
        for (int far : FAR) {
            check.due("bare(" + far + ")", x.bare(far), -1);
        }
        check.due("gloved still", x.now(2), 2);
        check.due("0", x.bare(1), 0);
        check.due("why not", x.bare(1), 1);
    }

    private void days() {
        check.promises(15, "n (1 to 60) DAYS go by: how many did; NONE: not as told.");
        LeftAnswers x = new LeftAnswers();
        check.due("none", x.days(0), -1);
        check.due("one too many", x.days(61), -1);
        check.due("below", x.days(-1), -1);
        check.due("far below", x.days(Integer.MIN_VALUE), -1);
        check.due("far above", x.days(Integer.MAX_VALUE), -1);
        check.due("none went", x.now(0), 0);
        check.due("the least", x.days(1), 1);
        check.due("the most", x.days(60), 60);
        check.due("they went", x.now(0), 61);
        for (int i = 0; i < 5; i++) {
            x.days(60);
        }
        check.due("361", x.now(0), 361);
        check.due("fewer are left", x.days(60), 39);
        check.due("400", x.now(0), 400);
        check.due("none is left", x.days(1), 0);
        check.due("still not as told", x.days(0), -1);
        check.due("still not as told", x.days(61), -1);
        check.due("400", x.now(0), 400);
    }

    private void undoes() {
        check.promises(16, "that was done, days() above 0, drawn() above 0, a BOOK that was lived is undone: how many more can be");
        LeftAnswers x = Check.duchyOf("person a 5 5;person b 5 5;person c 5 5 gloved;deed d 1 5 9;sees b a;law 9;");
        x.wed(0, 1);
        x.part(1);
        x.glove(1);
        x.bare(2);
        x.does(0, 0, 0);
        x.days(2);
        x.drawn(3, 77);
        Check.book(x, "day 4;c gloves;c gloves;", 1);
        check.due("day", x.now(0), 9);
        check.due("a book", x.undo(), 7);
        check.due("day", x.now(0), 5);
        check.due("drawn", x.undo(), 6);
        check.dueRow("now", now(x), 2, 1, 2, 0, 1, 5, 1, 1);
        check.due("days", x.undo(), 5);
        check.dueRow("now", now(x), 0, 1, 2, 0, 1, 5, 1, 1);
        check.due("cell", x.person(0, 2), 3);
        check.due("does", x.undo(), 4);
        check.dueRow("now", now(x), 0, 0, 2, 0, 1, 0, 0, 0);
        check.due("done", x.deed(0, 4), 0);
        check.due("hands", x.person(0, 6), 0);
        check.due("bare", x.undo(), 3);
        check.due("gloved", x.now(2), 6);
        check.due("glove", x.undo(), 2);
        check.due("gloved", x.now(2), 4);
        check.due("part", x.undo(), 1);
        check.due("wed", x.now(3), 3);
        check.due("wed", x.undo(), 0);
        check.due("wed", x.now(3), 0);

        check.promises(16, "(8 at most are kept)");
        for (int acts = 1; acts <= 20; acts++) {
            x = new LeftAnswers();
            for (int i = 0; i < acts; i++) {
                x.days(1);
            }
            int kept = Math.min(8, acts);
            for (int i = 1; i <= kept; i++) {
                check.due("undo() " + i + " of " + acts, x.undo(), kept - i);
                check.due("day behind it", x.now(0), acts - i);
            }
            check.due("no more of " + acts, x.undo(), -1);
            check.due("day stays", x.now(0), acts - kept);
            x.days(1);
            check.due("again", x.undo(), 0);
        }
    }

    private void undoesNothing() {
        check.promises(16, "NONE: none is");
        LeftAnswers x = new LeftAnswers();
        check.due("a new object", x.undo(), -1);
        x = Check.duchyOf("person a 5 5;person b 5 5;person c 5 5 gloved;deed d 9 5 9;");
        x.does(0, 0, 0);
        x.does(9, 0, 0);
        x.wed(0, 0);
        x.wed(0, 9);
        x.part(0);
        x.part(9);
        x.glove(2);
        x.glove(9);
        x.bare(0);
        x.bare(9);
        x.days(0);
        x.days(61);
        x.drawn(0, 1);
        x.drawn(61, 1);
        x.odds(0, 3, 1);
        Check.book(x, "day 1;a weds b;", 0);
        Check.book(x, "day 1;a weds b", 1);
        x.end(0);
        x.book(7);
        Check.sentence(x, "wed");
        x.image(0);
        x.best();
        x.guards();
        x.slip(0);
        check.due("nothing was done by all these", x.undo(), -1);
        check.dueRow("now", now(x), 0, 0, 4, 0, 0, 0, 0, 0);
        x.days(1);
        x.undo();
        check.due("what is undone is not undone again", x.undo(), -1);
        for (int i = 0; i < 7; i++) {
            x.days(60);
        }
        check.due("day", x.now(0), 400);
        x.days(60);
        x.drawn(60, 3);
        check.due("days() and drawn() of 0 are none", x.undo(), 6);
        check.due("the last that went", x.now(0), 360);
    }

    private void able() {
        check.promises(17, "HANDS by which a PERSON could do a DEED now, as bits (1 right, 2 left, 4 two); NONE: no such ones.");
        LeftAnswers x = Check.duchyOf("person a 5 3;person b 5 5 gloved;deed d 3 1 0;deed e 4 1 9;deed f 8 1 0 both;deed g 9 1 0 both;"
                + "sees b a;law 9;cell 1;");
        check.dueRow("a", able(x, 0), 3, 1, 4, 0);
        check.dueRow("b is gloved", able(x, 1), 1, 1, 0, 0);
        x.does(0, 0, 1);
        check.dueRow("a's left is busy", able(x, 0), 1, 1, 0, 0);
        x.does(0, 1, 0);
        check.dueRow("a is jailed", able(x, 0), 0, 0, 0, 0);
        x.days(1);
        check.dueRow("a is out", able(x, 0), 3, 1, 4, 0);
        check.due("one person more", x.able(2, 0), -1);
        check.due("one deed more", x.able(0, 4), -1);
        for (int far : FAR) {
            check.due("able(" + far + ", 0)", x.able(far, 0), -1);
            check.due("able(0, " + far + ")", x.able(0, far), -1);
        }
    }

    private static int[] able(LeftAnswers x, int p) {
        return new int[] {x.able(p, 0), x.able(p, 1), x.able(p, 2), x.able(p, 3)};
    }
}
