/** Promises 6 and 9 to 17: what persons do, days, what is undone. */
public final class ActsTest {
    public static void main(String[] args) {
        Check check = new Check();
        wrongInputs(check);
        reasonsForDoing(check);
        blame(check);
        mostCoins(check);
        mostIdeas(check);
        wedding(check);
        gloving(check);
        slippingCoins(check);
        jail(check);
        lastDays(check);
        undoing(check);
        undoingKinds(check);
        ableHands(check);
        check.close("ActsTest");
    }

    private static void wrongInputs(Check check) {
        LeftAnswers x = Check.duchyOf(Check.ANN_TO_DOT);
        int[] bad = {-1, 4, Integer.MIN_VALUE, Integer.MAX_VALUE};
        for (int p : bad) {
            check.due("person(" + p + ", 0) throws", Check.throwsNoSuchElement(x, p, 0), true);
            check.due("does(" + p + ", 0, 0)", x.does(p, 0, 0), -1);
            check.due("does(0, " + p + ", 0)", x.does(0, p, 0), -1);
            check.due("does(0, 0, " + p + ")", x.does(0, 0, p), -1);
            check.due("wed(" + p + ", 0)", x.wed(p, 0), -1);
            check.due("wed(0, " + p + ")", x.wed(0, p), -1);
            check.due("wed(" + p + ", " + p + ")", x.wed(p, p), -1);
            check.due("part(" + p + ")", x.part(p), -1);
            check.due("glove(" + p + ")", x.glove(p), -1);
            check.due("bare(" + p + ")", x.bare(p), -1);
            check.due("able(" + p + ", 0)", x.able(p, 0), -1);
            check.due("able(0, " + p + ")", x.able(0, p), -1);
        }
        check.due("does(0, 0, 3)", x.does(0, 0, 3), -1);
        check.due("person(0, -1) throws", Check.throwsNoSuchElement(x, 0, -1), true);
        check.due("person(0, 8) throws", Check.throwsNoSuchElement(x, 0, 8), true);
        check.due("person(3, 7) throws", Check.throwsNoSuchElement(x, 3, 7), false);
        check.due("now(-1)", x.now(-1), -1);
        check.due("now(8)", x.now(8), -1);
        check.due("days(0)", x.days(0), -1);
        check.due("days(61)", x.days(61), -1);
        check.due("days(-5)", x.days(-5), -1);
        check.due("nothing was done", x.undo(), -1);
    }

    private static void reasonsForDoing(Check check) {
        LeftAnswers x = Check.duchyOf(Check.ANN_TO_DOT);
        check.due("two for one", x.does(0, 0, 2), 3);
        check.due("one for two, and too hard", x.does(0, 2, 0), 3);
        check.due("too hard", x.does(0, 2, 2), 4);
        check.due("gloved, left", x.does(2, 1, 1), 5);
        check.due("gloved, two", x.does(2, 2, 2), 5);
        check.due("gloved, but too hard first", x.does(2, 1, 0), 4);
        check.due("two", x.does(1, 2, 2), 0);
        check.due("both hands did", x.person(1, 6), 3);
        check.due("no idea by two", x.person(1, 3), 0);
        check.due("pay", x.person(1, 0), 5);
        check.due("busy ahead of hands", x.does(1, 0, 2), 2);
        check.due("busy", x.does(1, 0, 1), 2);
        check.due("the left", x.does(0, 3, 1), 0);
        check.due("bits", x.person(0, 6), 2);
        check.due("two with a busy left", x.does(0, 2, 2), 2);
        check.due("the right still", x.does(0, 3, 0), 0);
        check.due("deeds done", x.now(7), 3);
        check.due("deed(3, 4)", x.deed(3, 4), 2);
        check.due("deed(2, 4)", x.deed(2, 4), 1);
        x.days(1);
        check.due("the next day", x.person(0, 6), 0);
        check.due("again", x.does(0, 3, 0), 0);
    }

    private static void blame(Check check) {
        LeftAnswers x = Check.duchyOf(Check.ANN_TO_DOT);
        check.due("steals", x.does(3, 1, 0), 0);
        check.due("blame", x.person(3, 1), 4);
        x.days(1);
        check.due("kisses", x.does(3, 3, 0), 0);
        check.due("blame is 0", x.person(3, 1), 0);
        check.due("cell", x.person(3, 2), 2);
        check.due("paid all the same", x.person(3, 0), 11);
        check.due("had up", x.now(6), 1);
        check.due("jailed", x.now(1), 8);
        check.due("jailed does nothing", x.does(3, 3, 1), 1);
        check.due("jailed ahead of busy", x.does(3, 3, 0), 1);
        x = Check.duchyOf(Check.ANN_TO_DOT);
        x.does(1, 3, 1);
        check.due("the left is not blamed", x.person(1, 1), 0);
        x.does(1, 3, 0);
        check.due("the right is", x.person(1, 1), 2);
        x = Check.duchyOf("person a 5 5;person b 5 5;deed d 1 1 5;deed e 1 1 5 both;sees a b;sees b a;law 5;");
        check.due("two hands are blamed", x.does(0, 1, 2), 0);
        check.due("a is had up", x.now(1), 1);
        check.due("b is not seen now", x.person(1, 7), 0);
        check.due("b does", x.does(1, 0, 0), 0);
        check.due("without blame", x.person(1, 1), 0);
        check.due("seen", x.now(4), 1);
        check.due("b wed to a", x.wed(1, 0), 4);
        x = Check.duchyOf("person a 5 5;deed d 1 1 9;");
        x.does(0, 0, 0);
        check.due("nobody watches", x.person(0, 1), 0);
        x = Check.duchyOf("person a 5 5;person b 5 5;deed d 1 1 9;sees b a;");
        x.does(0, 0, 0);
        check.due("below law", x.person(0, 1), 9);
        x.days(1);
        x.does(0, 0, 0);
        check.due("above law", x.person(0, 2), 3);
    }

    private static void mostCoins(Check check) {
        LeftAnswers x = Check.duchyOf("person a 5 5;person b 5 5;deed d 1 30 0;ideas 1;");
        x.wed(0, 1);
        for (int i = 0; i < 33; i++) {
            x.does(0, 0, 0);
            x.does(1, 0, 0);
            x.days(1);
        }
        check.due("990", x.person(0, 0), 990);
        x.does(0, 0, 0);
        check.due("999 at most", x.person(0, 0), 999);
        x.does(1, 0, 1);
        check.due("999 of the other", x.person(1, 0), 999);
        x.days(1);
        check.due("one less", x.person(1, 0), 998);
        check.due("999 still", x.person(0, 0), 999);
        check.due("all coins", x.now(5), 1997);
    }

    private static void mostIdeas(Check check) {
        LeftAnswers x = Check.duchyOf("person a 5 5;deed d 1 0 0;");
        for (int i = 0; i < 101; i++) {
            x.does(0, 0, 1);
            x.days(1);
        }
        check.due("ideas", x.person(0, 3), 99);
        check.due("done", x.deed(0, 4), 101);
        check.due("day", x.now(0), 101);
    }

    private static void wedding(Check check) {
        LeftAnswers x = Check.duchyOf(Check.ANN_TO_DOT);
        check.due("part", x.part(0), 1);
        check.due("alike and gloved", x.wed(2, 2), 1);
        check.due("gloved", x.wed(2, 0), 3);
        check.due("wed", x.wed(0, 3), 0);
        check.due("of 0", x.person(0, 4), 3);
        check.due("of 3", x.person(3, 4), 0);
        check.due("bits", x.now(3), 9);
        check.due("wed ahead of gloved", x.wed(0, 2), 2);
        check.due("wed ones", x.wed(0, 3), 2);
        check.due("alike", x.wed(0, 0), 1);
        check.due("gloves", x.glove(3), 2);
        check.due("parts", x.part(3), 0);
        check.due("neither", x.now(3), 0);
        check.due("parts again", x.part(0), 1);
        x.does(3, 1, 0);
        x.days(1);
        x.does(3, 3, 0);
        check.due("jailed", x.wed(0, 3), 4);
        check.due("gloved ahead of jailed", x.wed(2, 3), 3);
        check.due("a jailed one is gloved", x.glove(3), 0);
    }

    private static void gloving(Check check) {
        LeftAnswers x = Check.duchyOf(Check.ANN_TO_DOT);
        check.due("glove(2)", x.glove(2), 1);
        check.due("bare(0)", x.bare(0), 1);
        check.due("bare(2)", x.bare(2), 0);
        check.due("bare(2)", x.bare(2), 1);
        check.due("gloved", x.now(2), 0);
        check.due("does", x.does(2, 1, 1), 0);
        check.due("glove(0)", x.glove(0), 0);
        check.due("person(0, 5)", x.person(0, 5), 1);
        check.due("person(1, 5)", x.person(1, 5), 0);
        check.due("gloved", x.now(2), 1);
    }

    private static void slippingCoins(Check check) {
        LeftAnswers x = Check.duchyOf("person a 5 5;person b 5 5;person c 5 5;deed d 1 1 0;deed e 1 0 0;ideas 2;");
        x.does(0, 0, 1);
        x.wed(0, 1);
        x.days(1);
        check.due("too few ideas", x.person(0, 0), 1);
        x.does(0, 1, 1);
        x.days(1);
        check.due("one slips", x.person(0, 0), 0);
        check.due("across", x.person(1, 0), 1);
        x.days(1);
        check.due("b has no ideas", x.person(1, 0), 1);
        x.does(1, 1, 1);
        x.days(1);
        x.does(1, 1, 1);
        x.days(1);
        check.due("back", x.person(0, 0), 1);
        x.days(1);
        check.due("to and fro within one day", x.person(0, 0), 1);
        x.part(0);
        x.days(5);
        check.due("parted", x.person(0, 0), 1);
    }

    private static void jail(Check check) {
        LeftAnswers x = Check.duchyOf("person a 5 5;person b 5 5;deed d 1 9 9;sees a b;law 1;cell 3;ideas 1;");
        x.does(1, 0, 1);
        x.wed(0, 1);
        x.does(1, 0, 0);
        check.due("wed in the cell", x.now(3), 3);
        check.due("days in it", x.person(1, 2), 3);
        x.days(1);
        check.due("coins slip out of it", x.person(0, 0), 1);
        check.due("a day less", x.person(1, 2), 2);
        x.days(2);
        check.due("out", x.person(1, 2), 0);
        check.due("does", x.does(1, 0, 0), 0);
        check.due("had up twice", x.now(6), 2);
    }

    private static void lastDays(Check check) {
        LeftAnswers x = Check.duchyOf(Check.ANN_TO_DOT);
        for (int i = 1; i <= 6; i++) {
            check.due("days(60)", x.days(60), 60);
        }
        check.due("days(60)", x.days(60), 40);
        check.due("day", x.now(0), 400);
        check.due("days(1)", x.days(1), 0);
        check.due("drawn(1, 1)", x.drawn(1, 1), 0);
        check.due("odds", x.odds(0, 5, 1), 0);
        check.due("undo()", x.undo(), 6);
        check.due("day", x.now(0), 360);
        check.due("drawn(60, 1)", x.drawn(60, 1), 40);
        check.due("undo()", x.undo(), 6);
        check.due("days(60)", x.days(60), 40);
        check.due("does at the end", x.does(0, 0, 0), 0);
    }

    private static void undoing(Check check) {
        LeftAnswers x = Check.duchyOf("person a 5 5;deed d 1 1 0;");
        for (int i = 1; i <= 10; i++) {
            x.does(0, 0, 0);
            x.days(1);
        }
        for (int i = 7; i >= 0; i--) {
            check.due("undo()", x.undo(), i);
            check.due("day", x.now(0), 6 + i / 2);
            check.due("coins", x.now(5), 6 + (i + 1) / 2);
            check.due("done", x.deed(0, 4), 6 + (i + 1) / 2);
            check.due("hands", x.person(0, 6), i % 2 == 0 ? 0 : 1);
        }
        check.due("undo()", x.undo(), -1);
        check.due("day stays", x.now(0), 6);
    }

    private static void undoingKinds(Check check) {
        LeftAnswers x = Check.duchyOf(Check.ANN_TO_DOT);
        x.wed(0, 1);
        x.wed(0, 3);
        x.part(1);
        x.part(1);
        x.glove(0);
        x.glove(0);
        x.bare(2);
        x.bare(2);
        x.does(3, 1, 0);
        x.does(3, 1, 0);
        Check.sentence(x, "wed");
        check.due("undo does", x.undo(), 4);
        check.due("no blame", x.person(3, 1), 0);
        check.due("none done", x.now(7), 0);
        check.due("undo bare", x.undo(), 3);
        check.due("gloved", x.now(2), 5);
        check.due("undo glove", x.undo(), 2);
        check.due("gloved", x.now(2), 4);
        check.due("undo part", x.undo(), 1);
        check.due("wed", x.now(3), 3);
        check.due("the sentence stays", x.said(-1), 2);
        check.due("undo wed", x.undo(), 0);
        check.due("wed", x.now(3), 0);
        check.due("undo", x.undo(), -1);
        x.does(3, 1, 0);
        x.days(1);
        x.does(3, 1, 0);
        check.due("had up", x.now(6), 1);
        x.undo();
        check.due("not had up", x.now(6), 0);
        check.due("not jailed", x.now(1), 0);
        check.due("blame", x.person(3, 1), 4);
    }

    private static void ableHands(Check check) {
        LeftAnswers x = Check.duchyOf(Check.ANN_TO_DOT);
        int[] able = new int[16];
        for (int i = 0; i < 16; i++) {
            able[i] = x.able(i / 4, i % 4);
        }
        check.dueRow("able", able, 1, 0, 0, 3, 3, 2, 4, 3, 0, 0, 0, 0, 1, 1, 0, 1);
        x.does(1, 0, 0);
        check.due("the left still", x.able(1, 0), 2);
        check.due("two no more", x.able(1, 2), 0);
        x.bare(2);
        check.due("bare", x.able(2, 1), 2);
        x.does(3, 1, 0);
        x.days(1);
        x.does(3, 3, 0);
        check.due("jailed", x.able(3, 0), 0);
    }
}
