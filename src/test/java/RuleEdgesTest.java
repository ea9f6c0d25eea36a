/** "Terms", ==== 2.: each sentence on acts and DAYS that names an edge, by itself. */
public final class RuleEdgesTest {
    private static final int RIGHT = 0;
    private static final int LEFT = 1;
    private static final int TWO = 2;

    private final Check check = new Check();

    public static void main(String[] args) {
        RuleEdgesTest test = new RuleEdgesTest();
        test.handsAndWatchers();
        test.whyNotJailedOrBusy();
        test.whyNotHandsOrSkill();
        test.pay();
        test.ideas();
        test.blame();
        test.hadUp();
        test.wedding();
        test.parting();
        test.gloves();
        test.lastDay();
        test.slippingCoins();
        test.slippingAtTheEdges();
        test.cellsAndMornings();
        test.newDuchy();
        test.nothingOfAnotherText();
        test.check.close("RuleEdgesTest");
    }

    private void handsAndWatchers() {
        check.says("The SKILL of HANDS: that of the right, of the left, of 'two' both together.");
        LeftAnswers x = Check.duchyOf("person a 9 9;person b 1 1;person c 2 7;");
        check.dueRow("skills", new int[] {x.skill(0, TWO), x.skill(1, TWO), x.skill(2, RIGHT), x.skill(2, LEFT),
            x.skill(2, TWO)}, 18, 2, 2, 7, 9);

        check.says("A PERSON is SEEN, if somebody who is not JAILED watches him.");
        x = Check.duchyOf("person a 5 5;person b 5 5;person c 5 5;deed d 1 1 9;sees a b;sees b a;sees c b;law 9;cell 1;");
        check.due("a and b", x.now(4), 3);
        x.does(0, 0, RIGHT);
        check.due("b still, by c", x.now(4), 3);
        x.does(1, 0, RIGHT);
        check.due("a no more", x.now(4), 2);
        check.due("a no more", x.person(0, 7), 0);
        x.days(1);
        check.due("again, when both are out", x.now(4), 3);
    }

    /** a is watched by b; deed 0 is easy, 1 too hard for one hand, 2 to blame, 3 and 4 need both, 4 is too hard. */
    private static LeftAnswers busyDuchy() {
        return Check.duchyOf("person a 5 3;person b 5 5;deed easy 3 1 0;deed hard 9 1 0;deed bad 1 1 9;"
                + "deed wide 8 1 0 both;deed vast 18 1 0 both;sees b a;law 9;cell 2;");
    }

    private void whyNotJailedOrBusy() {
        check.says("why not, the least: 1 he is JAILED");
        LeftAnswers x = busyDuchy();
        x.does(0, 2, RIGHT);
        check.due("and busy", x.does(0, 0, RIGHT), 1);
        check.due("and one for both", x.does(0, 3, LEFT), 1);
        check.due("and too hard", x.does(0, 1, LEFT), 1);
        x.glove(0);
        check.due("and gloved", x.does(0, 0, LEFT), 1);
        x.days(1);
        check.due("nothing else", x.does(0, 0, RIGHT), 1);
        x.days(1);
        check.due("out", x.does(0, 0, RIGHT), 0);

        check.says("2 a hand of these did something today");
        x = busyDuchy();
        check.due("the right", x.does(0, 0, RIGHT), 0);
        check.due("the right again", x.does(0, 0, RIGHT), 2);
        check.due("and one for both", x.does(0, 3, RIGHT), 2);
        check.due("and too hard", x.does(0, 1, RIGHT), 2);
        check.due("two, one of which did", x.does(0, 3, TWO), 2);
        check.due("two for one", x.does(0, 0, TWO), 2);
        check.due("the left is another", x.does(0, 0, LEFT), 0);
        x.glove(0);
        check.due("and gloved", x.does(0, 0, LEFT), 2);
        check.due("nothing more was done", x.now(7), 2);
        x = busyDuchy();
        x.does(0, 0, LEFT);
        check.due("two, the left of which did", x.does(0, 3, TWO), 2);
        x = busyDuchy();
        x.does(0, 3, TWO);
        check.due("both did", x.does(0, 0, RIGHT), 2);
        check.due("both did", x.does(0, 0, LEFT), 2);
        check.due("both did", x.does(0, 3, TWO), 2);
    }

    private void whyNotHandsOrSkill() {
        check.says("3 the DEED needs both and it is one HAND, or not and they are two");
        LeftAnswers x = busyDuchy();
        check.due("one for both", x.does(0, 3, RIGHT), 3);
        check.due("one for both", x.does(0, 3, LEFT), 3);
        check.due("two for one", x.does(0, 0, TWO), 3);
        check.due("and too hard", x.does(0, 4, RIGHT), 3);
        x.glove(0);
        check.due("and gloved", x.does(0, 3, LEFT), 3);
        check.due("and gloved", x.does(0, 0, TWO), 3);
        x.bare(0);
        check.due("two for both", x.does(0, 3, TWO), 0);

        check.says("4 the SKILL is below what it is HARD");
        for (int hard = 1; hard <= 18; hard++) {
            x = Check.duchyOf("person a 5 3;deed d " + hard + " 1 0;deed e " + hard + " 1 0 both;");
            check.due("right for " + hard, x.does(0, 0, RIGHT), hard <= 5 ? 0 : 4);
            check.due("left for " + hard, x.does(0, 0, LEFT), hard <= 3 ? 0 : 4);
            x.days(1);
            check.due("two for " + hard, x.does(0, 1, TWO), hard <= 8 ? 0 : 4);
        }
        x = Check.duchyOf("person a 5 3 gloved;deed d 4 1 0;");
        check.due("and gloved", x.does(0, 0, LEFT), 4);

        check.says("5 he is GLOVED and it is not the right");
        x = Check.duchyOf("person a 5 5 gloved;deed d 5 1 0;deed e 10 1 0 both;");
        check.due("the left", x.does(0, 0, LEFT), 5);
        check.due("two", x.does(0, 1, TWO), 5);
        check.due("nothing was done", x.now(7), 0);
        check.due("the right", x.does(0, 0, RIGHT), 0);
    }

    private void pay() {
        check.says("he has PAY more (999 at most)");
        LeftAnswers x = Check.duchyOf("person a 5 5;deed d 1 30 0;deed e 1 9 0;deed f 1 8 0;deed g 1 1 0;deed h 1 0 0;");
        for (int day = 0; day < 16; day++) {
            x.does(0, 0, RIGHT);
            x.does(0, 0, LEFT);
            x.days(1);
        }
        x.does(0, 0, RIGHT);
        check.due("33 times 30", x.person(0, 0), 990);
        x.does(0, 1, LEFT);
        check.due("just the most", x.person(0, 0), 999);
        x.undo();
        x.does(0, 0, LEFT);
        check.due("more than the most", x.person(0, 0), 999);
        x.undo();
        x.does(0, 2, LEFT);
        check.due("one below", x.person(0, 0), 998);
        x.days(1);
        x.does(0, 4, RIGHT);
        check.due("no pay", x.person(0, 0), 998);
        x.does(0, 3, LEFT);
        check.due("one more", x.person(0, 0), 999);
        x.days(1);
        check.due("it is done all the same", x.does(0, 3, RIGHT), 0);
        check.due("and no coin more", x.person(0, 0), 999);
        check.due("done", x.now(7), 37);
    }

    private void ideas() {
        check.says("By the left (alone) he has an idea more (99 at most).");
        LeftAnswers x = Check.duchyOf("person a 5 5;deed d 1 0 0;deed e 1 0 0 both;");
        x.does(0, 0, RIGHT);
        check.due("the right", x.person(0, 3), 0);
        x.days(1);
        x.does(0, 1, TWO);
        check.due("two", x.person(0, 3), 0);
        x.days(1);
        for (int n = 1; n <= 101; n++) {
            x.does(0, 0, LEFT);
            if (n < 3 || n > 97) {
                check.due("the left, " + n + " times", x.person(0, 3), Math.min(n, 99));
            }
            x.days(1);
        }
    }

    private void blame() {
        check.says("Else, if he is SEEN, his blame is BLAME more");
        LeftAnswers x = Check.duchyOf("person a 5 5;person b 5 5;deed d 1 1 3;deed e 1 1 4 both;deed f 1 1 0;"
                + "sees b a;law 30;");
        x.does(0, 0, LEFT);
        check.due("the left", x.person(0, 1), 0);
        x.does(0, 0, RIGHT);
        check.due("the right", x.person(0, 1), 3);
        x.days(1);
        x.does(0, 1, TWO);
        check.due("two", x.person(0, 1), 7);
        x.days(1);
        x.does(0, 2, RIGHT);
        check.due("a deed without", x.person(0, 1), 7);
        x.does(1, 0, RIGHT);
        check.due("one who is not seen", x.person(1, 1), 0);
        x.days(1);
        x.does(1, 1, TWO);
        check.due("two of one who is not seen", x.person(1, 1), 0);
        x = Check.duchyOf("person a 5 5;person b 5 5;deed d 1 1 9;sees b a;sees a b;law 9;");
        x.does(1, 0, RIGHT);
        x.does(0, 0, RIGHT);
        check.due("his watcher is jailed", x.person(0, 1), 0);
        check.due("he is not", x.person(0, 2), 0);
    }

    private void hadUp() {
        check.says("if it is as much as 'law' tells then, or more, he is had up");
        for (int law = 7; law <= 10; law++) {
            LeftAnswers x = Check.duchyOf("person a 5 5;person b 5 5;deed d 1 1 8;sees b a;law " + law + ";");
            x.does(0, 0, RIGHT);
            check.due("8 of " + law, x.now(6), law <= 8 ? 1 : 0);
            check.due("8 of " + law, x.now(1), law <= 8 ? 1 : 0);
        }
        LeftAnswers x = Check.duchyOf("person a 5 5;person b 5 5;deed d 1 1 9;deed e 1 1 2;deed f 1 1 3;deed g 1 1 1;"
                + "sees b a;law 30;");
        for (int day = 1; day <= 3; day++) {
            x.does(0, 0, RIGHT);
            x.days(1);
        }
        x.does(0, 1, RIGHT);
        check.due("29 of 30", x.person(0, 1), 29);
        x.undo();
        x.does(0, 2, RIGHT);
        check.due("30 of 30", x.now(6), 1);
        x.undo();
        x.does(0, 0, RIGHT);
        check.due("36 of 30", x.now(6), 1);

        check.says("JAILED for 'cell' DAYS, his blame is 0");
        for (int cell : new int[] {1, 3, 30}) {
            x = Check.duchyOf("person a 5 5;person b 5 5;deed d 1 1 9;sees b a;law 5;cell " + cell + ";");
            x.does(0, 0, RIGHT);
            check.due("days of " + cell, x.person(0, 2), cell);
            check.due("blame", x.person(0, 1), 0);
            check.due("paid all the same", x.person(0, 0), 1);
            for (int day = 1; day < cell; day++) {
                x.days(1);
            }
            check.due("the last one of " + cell, x.does(0, 0, LEFT), 1);
            x.days(1);
            check.due("out behind " + cell, x.does(0, 0, LEFT), 0);
        }
    }

    private static LeftAnswers weddingDuchy() {
        LeftAnswers x = Check.duchyOf("person a 5 5;person b 5 5;person c 5 5;person d 5 5 gloved;person e 5 5 gloved;"
                + "person f 5 5;deed bad 1 1 9;sees a f;sees a e;law 9;cell 30;");
        x.does(5, 0, RIGHT);
        x.does(4, 0, RIGHT);
        return x;
    }

    private void wedding() {
        check.says("To WED two lefts: 1 they are alike; 2 one of them is wed; 3 one is GLOVED; 4 one is JAILED");
        LeftAnswers x = weddingDuchy();
        check.due("jailed", x.now(1), 48);
        check.due("alike", x.wed(0, 0), 1);
        check.due("alike and gloved", x.wed(3, 3), 1);
        check.due("alike and jailed", x.wed(5, 5), 1);
        check.due("the first gloved", x.wed(3, 0), 3);
        check.due("the second gloved", x.wed(0, 3), 3);
        check.due("gloved and jailed", x.wed(4, 0), 3);
        check.due("one gloved, one jailed", x.wed(5, 3), 3);
        check.due("the first jailed", x.wed(5, 0), 4);
        check.due("the second jailed", x.wed(0, 5), 4);
        check.due("wed", x.wed(0, 1), 0);
        check.due("alike and wed", x.wed(0, 0), 1);
        check.due("the first wed", x.wed(0, 2), 2);
        check.due("the second wed", x.wed(2, 1), 2);
        check.due("wed to one another", x.wed(1, 0), 2);
        check.due("wed and gloved", x.wed(3, 0), 2);
        check.due("wed and jailed", x.wed(5, 1), 2);
        check.due("nobody more", x.now(3), 3);

        check.says("they are wed to one another");
        check.due("of the first", x.person(0, 4), 1);
        check.due("of the second", x.person(1, 4), 0);
        check.due("of another", x.person(2, 4), -1);
    }

    private void parting() {
        check.says("To PART: 1 he is not wed: neither is any more.");
        LeftAnswers x = weddingDuchy();
        check.due("not wed", x.part(0), 1);
        x.wed(0, 1);
        check.due("another", x.part(2), 1);
        check.due("the second", x.part(1), 0);
        check.due("neither", x.now(3), 0);
        check.due("the first", x.person(0, 4), -1);
        check.due("again", x.part(0), 1);
        check.due("free for another", x.wed(0, 2), 0);
        check.due("the first parts, too", x.part(0), 0);
        check.due("neither", x.person(2, 4), -1);
    }

    private void gloves() {
        check.says("To GLOVE: 1 he is GLOVED; 2 he is wed: he is.");
        LeftAnswers x = weddingDuchy();
        check.due("gloved", x.glove(3), 1);
        x.wed(0, 1);
        check.due("wed", x.glove(0), 2);
        check.due("wed", x.glove(1), 2);
        check.due("none of them", x.now(2), 24);
        check.due("another", x.glove(2), 0);
        check.due("he is", x.now(2), 28);
        check.due("again", x.glove(2), 1);
        check.due("a jailed one", x.glove(5), 0);

        check.says("To BARE: 1 he is not GLOVED: he is not.");
        check.due("not gloved", x.bare(0), 1);
        check.due("gloved", x.bare(3), 0);
        check.due("he is not", x.person(3, 5), 0);
        check.due("again", x.bare(3), 1);
        check.due("the others are", x.now(2), 52);
        check.due("a jailed one", x.bare(4), 0);
    }

    private void lastDay() {
        check.says("A DAY (0 to 399; 400: all are over)");
        LeftAnswers x = Check.duchyOf("person a 5 5;deed d 1 1 0;");
        for (int i = 0; i < 6; i++) {
            x.days(60);
        }
        check.due("39 more", x.days(39), 39);
        check.due("the last one", x.now(0), 399);
        check.due("it goes", x.days(2), 1);
        check.due("all are over", x.now(0), 400);
        check.due("none goes", x.days(1), 0);
        check.due("none goes", x.days(60), 0);
        check.due("none goes", x.drawn(1, 5), 0);
        check.due("none goes", Check.book(x, "day 1;", 1), 0);
        check.due("400 still", x.now(0), 400);
    }

    /** a and b are wed and a has so many ideas and coins. */
    private static LeftAnswers fondDuchy(int ideas, int coins, int due) {
        LeftAnswers x = Check.duchyOf("person a 5 5;person b 5 5;deed d 1 0 0;deed e 1 1 0;ideas " + due + ";");
        for (int i = 0; i < Math.max(ideas, coins); i++) {
            if (i < ideas) {
                x.does(0, 0, LEFT);
            }
            if (i < coins) {
                x.does(0, 1, RIGHT);
            }
            x.days(1);
        }
        x.wed(0, 1);
        return x;
    }

    private void slippingCoins() {
        check.says("who has as many ideas as 'ideas' tells, at least, is wed, and owns something");
        for (int ideas = 0; ideas <= 4; ideas++) {
            LeftAnswers x = fondDuchy(ideas, 2, 3);
            x.days(1);
            check.due("of " + ideas + " ideas", x.person(0, 0), ideas >= 3 ? 1 : 2);
            check.due("of " + ideas + " ideas", x.person(1, 0), ideas >= 3 ? 1 : 0);
        }
        LeftAnswers x = fondDuchy(3, 2, 3);
        x.part(0);
        x.days(1);
        check.due("not wed", x.person(0, 0), 2);
        x = fondDuchy(1, 1, 1);
        check.due("ideas as of the day", x.days(1), 1);
        check.due("the last coin", x.person(0, 0), 0);
        x.days(1);
        check.due("owns nothing", x.person(0, 0), 0);
        check.due("owns nothing", x.person(1, 0), 1);
        x = fondDuchy(30, 1, 30);
        x.days(1);
        check.due("30 ideas", x.person(1, 0), 1);
    }

    private void slippingAtTheEdges() {
        check.says("he has 1 coin less, the one to whom he is wed 1 more (999 at most)");
        LeftAnswers x = Check.duchyOf("person a 5 5;person b 5 5;deed d 1 30 0;deed e 1 9 0;deed f 1 8 0;deed g 1 0 0;"
                + "ideas 1;");
        x.wed(0, 1);
        for (int day = 0; day < 33; day++) {
            x.does(1, 0, RIGHT);
            x.days(1);
        }
        x.does(1, 2, RIGHT);
        x.does(0, 1, LEFT);
        check.due("998", x.person(1, 0), 998);
        x.days(1);
        check.due("one more", x.person(1, 0), 999);
        check.due("one less", x.person(0, 0), 8);
        x.days(1);
        check.due("no more", x.person(1, 0), 999);
        check.due("one less all the same", x.person(0, 0), 7);
        check.due("a coin is lost", x.now(5), 1006);

        check.says("PERSON by PERSON who has as many ideas");
        x = Check.duchyOf("person a 5 5;person b 5 5;deed d 1 1 0;deed e 1 0 0;ideas 1;");
        x.does(0, 1, LEFT);
        x.does(1, 1, LEFT);
        x.does(0, 0, RIGHT);
        x.wed(0, 1);
        x.days(1);
        check.due("to b and back", x.person(0, 0), 1);
        x.undo();
        x.undo();
        x.undo();
        x.does(1, 0, RIGHT);
        x.wed(0, 1);
        x.days(1);
        check.due("a has none when it is his turn", x.person(0, 0), 1);
        x.days(1);
        check.due("to b and back", x.person(0, 0), 1);
    }

    private void cellsAndMornings() {
        check.says("Then each JAILED one has a DAY less.");
        LeftAnswers x = Check.duchyOf("person a 5 5;person b 5 5;person c 5 5;deed d 1 1 9;sees c a;sees c b;law 9;cell 2;");
        x.does(0, 0, RIGHT);
        x.days(1);
        x.does(1, 0, RIGHT);
        check.dueRow("cells", new int[] {x.person(0, 2), x.person(1, 2), x.person(2, 2)}, 1, 2, 0);
        x.days(1);
        check.dueRow("cells", new int[] {x.person(0, 2), x.person(1, 2), x.person(2, 2)}, 0, 1, 0);
        x.days(1);
        check.dueRow("cells", new int[] {x.person(0, 2), x.person(1, 2), x.person(2, 2)}, 0, 0, 0);

        check.says("It is the next DAY, no hand has done anything.");
        x = Check.duchyOf("person a 5 5;person b 5 5;deed d 1 1 0;deed e 1 1 0 both;");
        x.does(0, 0, LEFT);
        x.does(1, 1, TWO);
        check.dueRow("hands", new int[] {x.now(0), x.person(0, 6), x.person(1, 6)}, 0, 2, 3);
        x.days(1);
        check.dueRow("hands", new int[] {x.now(0), x.person(0, 6), x.person(1, 6)}, 1, 0, 0);
        check.due("again", x.does(0, 0, LEFT), 0);
        check.due("again", x.does(1, 1, TWO), 0);
    }

    private void newDuchy() {
        check.says("A new DUCHY: DAY 0, nobody owns, is blamed, JAILED or wed, no ideas, no SENTENCE.");
        String text = "person a 5 5;person b 5 5;person c 5 5 gloved;deed d 1 1 9;deed e 1 1 4;sees c a;sees c b;law 9;";
        LeftAnswers x = Check.duchyOf(text);
        x.wed(0, 1);
        x.does(0, 0, RIGHT);
        x.days(1);
        x.does(1, 1, RIGHT);
        x.does(1, 1, LEFT);
        x.bare(2);
        Check.sentence(x, "wed");
        check.dueRow("now", now(x), 1, 1, 0, 3, 3, 3, 1, 3);
        check.due("said", x.said(-1), 2);
        check.due("the same text again", Check.duchy(x, text), 8);
        check.dueRow("now", now(x), 0, 0, 4, 0, 3, 0, 0, 0);
        for (int p = 0; p < 3; p++) {
            check.dueRow("person " + p, new int[] {x.person(p, 0), x.person(p, 1), x.person(p, 2), x.person(p, 3),
                x.person(p, 4), x.person(p, 6)}, 0, 0, 0, 0, -1, 0);
        }
        check.due("done so far", x.deed(0, 4), 0);
        check.due("done so far", x.deed(1, 4), 0);
        check.due("no sentence", x.said(-1), -1);
        check.due("no sentence", x.said(0), -1);
    }

    private void nothingOfAnotherText() {
        check.promises(4, "is the DUCHY now");
        String full = "person a 1 1 gloved;person b 1 1 gloved;deed c 1 1 1 both;deed d 1 1 1 both;sees a b;sees b a;"
                + "fond a b 9;fond b a 9;law 1;cell 1;ideas 1;";
        for (String other : new String[] {full, full + "!"}) {
            LeftAnswers x = Check.duchyOf(other);
            for (int turn = 0; turn < 3; turn++) {
                check.due("another text", Check.duchy(x, "person e 2 2;person f 3 3;deed g 4 4 4;deed h 4 4 4;"), 4);
                check.dueRow("nobody is gloved, nobody is seen", now(x), 0, 0, 0, 0, 0, 0, 0, 0);
                check.dueRow("nothing of the first", new int[] {x.deed(0, 3), x.deed(1, 3), x.best(), x.hears(0, 1), x.hears(1, 0),
                    x.count(2), x.count(3), x.count(4)}, 0, 0, 0, -1, -1, 10, 3, 5);
                check.due("nor its names", Check.book(x, "a parts;", 0), -2);
            }
        }
    }

    private static int[] now(LeftAnswers x) {
        int[] row = new int[8];
        for (int what = 0; what < 8; what++) {
            row[what] = x.now(what);
        }
        return row;
    }
}
