/** Promises 32 to 39: days by draws, a BOOK, a SENTENCE, images. */
public final class BookTest {
    public static void main(String[] args) {
        Check check = new Check();
        drawing(check);
        oddsOf(check);
        bookFaults(check);
        bookLimits(check);
        judging(check);
        reasons(check);
        living(check);
        sentenceFaults(check);
        sentenceLimits(check);
        saying(check);
        images(check);
        check.close("BookTest");
    }

    private static void drawing(Check check) {
        LeftAnswers x = Check.duchyOf("person a 9 9;deed d 1 1 0;deed e 1 20 0;");
        check.due("drawn(0, 1)", x.drawn(0, 1), -1);
        check.due("drawn(61, 1)", x.drawn(61, 1), -1);
        check.due("drawn(-1, 1)", x.drawn(-1, 1), -1);
        int seed = 7;
        int coins = 0;
        int ideas = 0;
        int done = 0;
        for (int i = 0; i < 60; i++) {
            seed = seed * 1103515245 + 12345;
            int d = (seed >>> 8) % 2;
            seed = seed * 1103515245 + 12345;
            int hand = (seed >>> 8) % 3;
            if (hand != 2) {
                coins = Math.min(999, coins + (d == 0 ? 1 : 20));
                ideas += hand;
                done++;
            }
            seed = seed * 1103515245 + 12345;
            if ((seed >>> 8) % 8 == 0) {
                seed = seed * 1103515245 + 12345;
            }
        }
        check.due("drawn(60, 7)", x.drawn(60, 7), 60);
        check.due("coins", x.now(5), coins);
        check.due("ideas", x.person(0, 3), ideas);
        check.due("done", x.now(7), done);
        check.due("day", x.now(0), 60);
        check.due("hands", x.person(0, 6), 0);
        check.due("undo()", x.undo(), 0);
        check.due("coins", x.now(5), 0);
        check.due("day", x.now(0), 0);
        LeftAnswers none = Check.duchyOf("person a 9 9;person b 9 9;");
        check.due("no deeds: no draw", none.drawn(1, 3), 1);
        check.due("seed 3", none.now(3), weddingsWithoutDeeds(3));
        check.due("no persons", Check.duchyOf("deed d 1 1 1;").drawn(1, 1), -1);
    }

    private static int weddingsWithoutDeeds(int seed) {
        int x = seed;
        int wed = 0;
        for (int p = 0; p < 2; p++) {
            x = x * 1103515245 + 12345;
            int turn = (x >>> 8) % 8;
            if (turn == 0) {
                x = x * 1103515245 + 12345;
                if ((x >>> 8) % 2 != p && wed == 0) {
                    wed = 3;
                }
            } else if (turn == 1) {
                wed = 0;
            }
        }
        return wed;
    }

    private static void oddsOf(Check check) {
        LeftAnswers x = Check.duchyOf(Check.ANN_TO_DOT);
        x.does(0, 0, 0);
        check.due("no such one", x.odds(4, 1, 1), -1);
        check.due("no such one", x.odds(-1, 1, 1), -1);
        check.due("odds(0, 0, 1)", x.odds(0, 0, 1), -1);
        check.due("odds(0, 31, 1)", x.odds(0, 31, 1), -1);
        for (int p = 0; p < 4; p++) {
            int more = 0;
            int before = x.person(p, 0);
            for (int i = 0; i < 30; i++) {
                x.drawn(20, Integer.MAX_VALUE - 10 + i);
                more += x.person(p, 0) > before ? 1 : 0;
                x.undo();
            }
            check.due("odds(" + p + ")", x.odds(p, 30, Integer.MAX_VALUE - 10), more);
        }
        check.due("all stays", x.now(0), 0);
        check.due("all stays", x.now(5), 6);
        check.due("nothing to undo by it", x.undo(), 0);
    }

    private static void bookFault(Check check, String text, int kind, int place) {
        LeftAnswers x = Check.duchyOf(Check.ANN_TO_DOT);
        Check.book(x, "ann parts;", 0);
        for (int lives = 0; lives < 2; lives++) {
            check.due("book of: " + text, Check.book(x, text, lives), -2 - place);
            check.due("fault of: " + text, x.fault(), kind);
            check.due("the tape is empty behind: " + text, x.count(5), 0);
            check.due("told(0) stays behind: " + text, x.told(0), 21);
        }
        check.due("nothing was lived", x.undo(), -1);
    }

    private static void bookFaults(Check check) {
        bookFault(check, ";", 1, 0);
        bookFault(check, "ann", 1, 3);
        bookFault(check, "ann parts", 1, 9);
        bookFault(check, "ann parts ann", 1, 10);
        bookFault(check, "ann day;", 1, 4);
        bookFault(check, "ann bob;", 1, 4);
        bookFault(check, "parts;", 1, 0);
        bookFault(check, "gloved;", 1, 0);
        bookFault(check, "5;", 1, 0);
        bookFault(check, "ann does;", 1, 8);
        bookFault(check, "ann does sign;", 1, 13);
        bookFault(check, "ann does sign wed;", 1, 14);
        bookFault(check, "ann does sign ann;", 1, 14);
        bookFault(check, "ann does right;", 1, 9);
        bookFault(check, "ann does sign right", 1, 19);
        bookFault(check, "ann weds;", 1, 8);
        bookFault(check, "ann weds day;", 1, 9);
        bookFault(check, "day;", 1, 3);
        bookFault(check, "day ann;", 1, 4);
        bookFault(check, "day 0;", 2, 4);
        bookFault(check, "day 61;", 2, 4);
        bookFault(check, "zoe parts;", 3, 0);
        bookFault(check, "sign parts;", 3, 0);
        bookFault(check, "ann does ann right;", 3, 9);
        bookFault(check, "ann does hop right;", 3, 9);
        bookFault(check, "ann weds sign;", 3, 9);
        bookFault(check, "ann weds zoe;", 3, 9);
        bookFault(check, "ann parts;bob gloves;!", 1, 21);
    }

    private static void bookLimits(Check check) {
        LeftAnswers x = Check.duchyOf("person a 1 1;deed b 1 1 1;");
        String forty = "day 1;".repeat(40);
        check.due("forty", Check.book(x, forty, 0), -1);
        check.due("forty", x.told(1), 40);
        check.due("a 41st", Check.book(x, forty + " day 1;", 0), -2 - 241);
        check.due("kind", x.fault(), 4);
        check.due("a 41st", Check.book(x, forty + "a parts;", 0), -2 - 240);
        check.due("kind", x.fault(), 4);
        check.due("a 41st of nobody", Check.book(x, forty + "z parts;", 0), -2 - 240);
        check.due("kind", x.fault(), 3);
        check.due("a 41st of a deed", Check.book(x, forty + "b parts;", 0), -2 - 240);
        check.due("kind", x.fault(), 3);
        check.due("a 41st that can't come", Check.book(x, forty + "parts;", 0), -2 - 240);
        check.due("kind", x.fault(), 1);
        check.due("400 bytes", Check.book(x, forty + " ".repeat(160), 0), -1);
        check.due("401 bytes", Check.book(x, forty + " ".repeat(161), 0), -2 - 400);
        check.due("kind", x.fault(), 1);
        check.due("a fault ahead", Check.book(x, " ".repeat(399) + "zz parts;", 0), -2 - 399);
        check.due("kind", x.fault(), 3);
        Check.feed(x, "day 1;");
        check.due("another lives", x.book(2), -1000);
        check.due("another lives", x.book(-1), -1000);
        check.due("the tape stays", x.count(5), 6);
        check.due("the fault stays", x.fault(), 3);
        check.due("told stays", x.told(1), 40);
        check.due("book(0)", x.book(0), -1);
        check.due("no fault", x.fault(), 0);
    }

    private static void judging(Check check) {
        LeftAnswers x = Check.duchyOf(Check.ANN_TO_DOT);
        check.due("ahead of any", x.told(1), -1);
        check.due("an empty one", Check.book(x, "", 0), -1);
        check.dueRow("told", told(x), 0, 0, 0, 0);
        check.due("told(4)", x.told(4), -1);
        check.due("told(-1)", x.told(-1), -1);
        String text = "dot does steal right; day 1;\ndot does kiss right;ann weds bob;day 1;ann does kiss two;day 9;";
        check.due("wrong", Check.book(x, text, 0), 5);
        check.dueRow("told", told(x), 3, 5, 2, 8);
        check.due("day stays", x.now(0), 0);
        check.due("coins stay", x.now(5), 0);
        check.due("wed stays", x.now(3), 0);
        check.due("nothing to undo", x.undo(), -1);
    }

    private static int[] told(LeftAnswers x) {
        return new int[] {x.told(0), x.told(1), x.told(2), x.told(3)};
    }

    private static void reason(Check check, String text, int line, int why) {
        LeftAnswers x = Check.duchyOf(Check.ANN_TO_DOT);
        check.due("book of: " + text, Check.book(x, text, 0), line);
        check.due("why of: " + text, x.told(0), why);
        check.due("lines of: " + text, x.told(1), line);
    }

    private static void reasons(Check check) {
        String jailed = "dot does steal right;day 1;dot does kiss right;";
        reason(check, jailed + "dot does kiss left;", 3, 1);
        reason(check, "ann does kiss right;ann does kiss right;", 1, 2);
        reason(check, "ann does dig right;", 0, 3);
        reason(check, "ann does steal right;", 0, 4);
        reason(check, "cid does steal left;", 0, 5);
        reason(check, "ann weds ann;", 0, 11);
        reason(check, "ann weds bob;bob weds dot;", 1, 12);
        reason(check, "ann weds cid;", 0, 13);
        reason(check, jailed + "ann weds dot;", 3, 14);
        reason(check, "ann parts;", 0, 21);
        reason(check, "cid gloves;", 0, 31);
        reason(check, "ann weds bob;bob gloves;", 1, 32);
        reason(check, "ann bares;", 0, 41);
        reason(check, "day 60;day 60;day 60;day 60;day 60;day 60;day 41;", 6, 51);
        reason(check, "cid bares;cid weds ann;ann parts;cid gloves;cid gloves;", 4, 31);
        LeftAnswers x = Check.duchyOf(Check.ANN_TO_DOT);
        check.due("to the end", Check.book(x, "day 60;".repeat(6) + "day 40;", 1), -1);
        check.dueRow("told", told(x), 0, 7, 400, 0);
        check.due("none left", Check.book(x, "day 1;", 1), 0);
        check.dueRow("told", told(x), 51, 0, 400, 0);
    }

    private static void living(Check check) {
        LeftAnswers x = Check.duchyOf(Check.ANN_TO_DOT);
        x.glove(0);
        check.due("lived", Check.book(x, "ann bares;ann does sign right;day 2;bob does dig two;bob weds cid;day 3;", 1), 4);
        check.dueRow("told", told(x), 13, 4, 2, 0);
        check.due("day", x.now(0), 2);
        check.due("coins", x.now(5), 11);
        check.due("gloved", x.now(2), 4);
        check.due("done", x.now(7), 2);
        check.due("undone whole", x.undo(), 1);
        check.due("day", x.now(0), 0);
        check.due("coins", x.now(5), 0);
        check.due("gloved", x.now(2), 5);
        check.due("told stays", x.told(2), 2);
        check.due("a lived one without lines", Check.book(x, "", 1), -1);
        check.due("can be undone", x.undo(), 1);
        check.due("the glove", x.undo(), 0);
    }

    private static void sentenceFault(Check check, String text, int kind, int place) {
        LeftAnswers x = Check.duchyOf(Check.ANN_TO_DOT);
        Check.sentence(x, "gloved");
        check.due("sentence of: " + text, Check.sentence(x, text), -1 - place);
        check.due("fault of: " + text, x.fault(), kind);
        check.due("the tape is empty behind: " + text, x.count(5), 0);
        check.due("the sentence stays behind: " + text, x.said(0), 2);
    }

    private static void sentenceFaults(Check check) {
        sentenceFault(check, "", 1, 0);
        sentenceFault(check, "  ", 1, 2);
        sentenceFault(check, "ann", 1, 0);
        sentenceFault(check, "wed;", 1, 3);
        sentenceFault(check, "wed wed", 1, 4);
        sentenceFault(check, "wed or", 1, 6);
        sentenceFault(check, "or wed", 1, 0);
        sentenceFault(check, "wed and or wed", 1, 8);
        sentenceFault(check, "(wed", 1, 4);
        sentenceFault(check, "wed)", 1, 3);
        sentenceFault(check, "()", 1, 1);
        sentenceFault(check, "not", 1, 3);
        sentenceFault(check, "owns", 1, 4);
        sentenceFault(check, "owns 5", 1, 5);
        sentenceFault(check, "owns <", 1, 6);
        sentenceFault(check, "owns < ann", 1, 7);
        sentenceFault(check, "owns ( 5", 1, 5);
        sentenceFault(check, "owns <= 5", 1, 6);
        sentenceFault(check, "owns < 1000", 1, 7);
        sentenceFault(check, "to", 1, 2);
        sentenceFault(check, "to wed", 1, 3);
        sentenceFault(check, "to zoe", 3, 3);
        sentenceFault(check, "to sign", 3, 3);
        sentenceFault(check, "does", 1, 0);
        sentenceFault(check, "wed" + " ".repeat(198), 1, 200);
        sentenceFault(check, " ".repeat(198) + "zoe wed", 1, 198);
        sentenceFault(check, " ".repeat(198) + "wed", 1, 200);
    }

    private static void good(Check check, String text, int ones) {
        LeftAnswers x = Check.duchyOf(Check.ANN_TO_DOT);
        check.due("sentence of: " + text, Check.sentence(x, text), ones);
        check.due("fault of: " + text, x.fault(), 0);
        check.due("the tape is empty behind: " + text, x.count(5), 0);
    }

    private static void sentenceLimits(Check check) {
        good(check, "wed", 1);
        good(check, "not wed", 2);
        good(check, "(wed)", 2);
        good(check, "not(owns>5 or idea=0)and to ann", 5);
        good(check, "wed" + " ".repeat(197), 1);
        good(check, "owns < 0", 1);
        good(check, "owns<999", 1);
        good(check, "wed or ".repeat(19) + "wed", 20);
        sentenceFault(check, "wed or ".repeat(20) + "wed", 4, 140);
        sentenceFault(check, "wed or ".repeat(20) + "ann", 1, 140);
        sentenceFault(check, "wed or ".repeat(20) + "not wed", 4, 140);
        sentenceFault(check, "wed or ".repeat(20) + "(wed)", 4, 140);
        good(check, "not ".repeat(7) + "wed", 8);
        sentenceFault(check, "not ".repeat(8) + "wed", 4, 32);
        sentenceFault(check, "not ".repeat(8) + "not wed", 4, 32);
        sentenceFault(check, "not ".repeat(8) + "ann", 1, 32);
        good(check, "(".repeat(7) + "wed" + ")".repeat(7), 8);
        sentenceFault(check, "(".repeat(8) + "wed" + ")".repeat(8), 4, 8);
        good(check, "(not(not(not(wed and seen)or busy)))or not((((((wed))))))", 18);
    }

    private static void said(Check check, LeftAnswers x, String text, int bits) {
        Check.sentence(x, text);
        check.due("how many: " + text, x.said(-1), Integer.bitCount(bits));
        int k = 0;
        for (int p = 0; p < 4; p++) {
            if ((bits >> p & 1) == 1) {
                check.due("said(" + k + ") of: " + text, x.said(k), p);
                k++;
            }
        }
        check.due("none such: " + text, x.said(k), -1);
        check.due("said(-2) of: " + text, x.said(-2), -1);
    }

    private static void saying(Check check) {
        LeftAnswers x = Check.duchyOf(Check.ANN_TO_DOT);
        check.due("no sentence", x.said(-1), -1);
        check.due("no sentence", x.said(0), -1);
        x.does(0, 0, 0);
        x.does(3, 1, 0);
        x.wed(0, 1);
        said(check, x, "gloved", 4);
        said(check, x, "wed", 3);
        said(check, x, "busy", 9);
        said(check, x, "seen", 11);
        said(check, x, "jailed", 0);
        said(check, x, "not jailed", 15);
        said(check, x, "to ann", 2);
        said(check, x, "to bob", 1);
        said(check, x, "to cid", 0);
        said(check, x, "owns > 5", 9);
        said(check, x, "owns = 6", 1);
        said(check, x, "owns < 6", 6);
        said(check, x, "blame > 0", 8);
        said(check, x, "number < 2", 3);
        said(check, x, "number = 3", 8);
        said(check, x, "number > 0 and number < 3 or wed", 7);
        said(check, x, "wed or number > 0 and number < 2", 3);
        said(check, x, "(wed or number > 0) and number < 1", 1);
        said(check, x, "not wed or busy", 13);
        said(check, x, "not (wed or busy)", 4);
        said(check, x, "not not wed", 3);
        said(check, x, "not wed and not busy", 4);
        x.does(1, 0, 1);
        said(check, x, "idea = 1", 2);
        x.days(1);
        check.due("as it is now", x.said(-1), 1);
        x.does(3, 3, 0);
        said(check, x, "jailed", 8);
        said(check, x, "blame = 0", 15);
        LeftAnswers none = new LeftAnswers();
        check.due("of nobody", Check.sentence(none, "not wed"), 2);
        check.due("of nobody", none.said(-1), 0);
        check.due("of nobody", none.said(0), -1);
    }

    private static void images(Check check) {
        LeftAnswers x = Check.duchyOf(Check.ANN_TO_DOT);
        check.due("image(-1)", x.image(-1), false);
        check.due("image(2)", x.image(2), false);
        check.due("restore(-1)", x.restore(-1), false);
        check.due("restore(2)", x.restore(2), false);
        check.due("nothing is kept", x.restore(1), false);
        x.does(3, 1, 0);
        x.wed(0, 1);
        Check.sentence(x, "wed");
        check.due("image(1)", x.image(1), true);
        check.due("it can be undone still", x.undo(), 1);
        x.days(5);
        Check.duchy(x, "person zoe 1 2;law 7;");
        x.guards();
        x.slip(0);
        check.due("image(0)", x.image(0), true);
        x.days(1);
        Check.feed(x, "abc");
        check.due("restore(1)", x.restore(1), true);
        check.due("the tape stays", x.count(5), 3);
        check.due("the slip stays", x.byteAt(0), 'z');
        check.due("guarding stays", x.guarding(), 1);
        check.due("nothing can be undone", x.undo(), -1);
        check.due("persons", x.count(0), 4);
        check.due("law", x.count(2), 5);
        check.due("wed", x.now(3), 3);
        check.due("blame", x.person(3, 1), 4);
        check.due("hands", x.person(3, 6), 1);
        check.due("done", x.deed(1, 4), 1);
        check.due("the sentence", x.said(-1), 2);
        check.due("seen", x.now(4), 11);
        x.end(0);
        check.due("names", Check.book(x, "ann does kiss left;", 1), -1);
        x.best();
        x.image(1);
        check.due("restore(0)", x.restore(0), true);
        check.due("persons", x.count(0), 1);
        check.due("day", x.now(0), 0);
        check.due("no sentence", x.said(-1), -1);
        check.due("no deeds", x.count(1), 0);
        check.due("restore(1)", x.restore(1), true);
        check.due("kept anew", x.now(7), 2);
        x.does(0, 0, 0);
        check.due("restore(2)", x.restore(2), false);
        check.due("undo stays", x.undo(), 0);
        check.due("restore(1) again", x.restore(1), true);
        check.due("kept still", x.now(7), 2);
    }
}
