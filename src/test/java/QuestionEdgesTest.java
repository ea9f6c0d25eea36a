/** "Terms", ==== 3.: each sentence on what can be asked, on slips and on draws that names an edge, by itself. */
public final class QuestionEdgesTest {
    private static final int RIGHT = 0;
    private static final int LEFT = 1;
    private static final int TWO = 2;

    private final Check check = new Check();

    public static void main(String[] args) {
        QuestionEdgesTest test = new QuestionEdgesTest();
        test.partedTapes();
        test.partedHands();
        test.partedWithoutBlame();
        test.partedFirst();
        test.fits();
        test.fitsNoMatter();
        test.tests();
        test.hearing();
        test.guards();
        test.best();
        test.earns();
        test.slips();
        test.draws();
        test.drawsIfHeCan();
        test.throwing();
        test.check.close("QuestionEdgesTest");
    }

    private static int[] places(LeftAnswers x, int n) {
        int[] row = new int[2 * n];
        for (int k = 0; k < n; k++) {
            row[2 * k] = x.partedAt(k, 0);
            row[2 * k + 1] = x.partedAt(k, 1);
        }
        return row;
    }

    private void partedTapes() {
        check.says("PARTED by the tape (DEEDS: a byte for each; 1 to 4 of them; alike, too)");
        LeftAnswers x = Check.duchyOf("person a 5 5;person b 5 5;deed d 1 1 1;deed e 1 1 1;");
        check.due("none", Check.parted(x), -1);
        check.due("one", Check.parted(x, 1), 1);
        check.due("four", Check.parted(x, 0, 1, 0, 1), 4);
        check.due("four alike", Check.parted(x, 1, 1, 1, 1), 4);
        check.due("five", Check.parted(x, 0, 1, 0, 1, 0), -1);
        check.due("940", Check.parted(x, new int[940]), -1);
        check.due("the last deed", Check.parted(x, 0, 0, 0, 1), 4);
        check.due("no such deed", Check.parted(x, 0, 0, 0, 2), -1);
        check.due("no such deed ahead", Check.parted(x, 2, 0), -1);
        check.due("no such deed", Check.parted(x, 128), -1);
        check.due("no such deed", Check.parted(x, 255), -1);
        check.due("no deeds", Check.parted(Check.duchyOf("person a 5 5;"), 0), -1);
        check.due("no persons", Check.parted(Check.duchyOf("deed d 1 1 1;"), 0, 0), 0);
    }

    private void partedHands() {
        check.says("the most of them that can be done today, each by a HAND (or two) that could do it now");
        LeftAnswers x = Check.duchyOf("person a 5 3;person b 4 2 gloved;person c 9 9;person w 1 1;deed d 4 1 0;deed e 8 1 0 both;"
                + "deed f 9 1 9;deed g 9 1 0;sees w c;law 9;");
        x.does(2, 2, RIGHT);
        check.due("c is jailed", x.now(1), 4);
        check.due("d by a and by b", Check.parted(x, 0, 0, 0, 0), 2);
        check.dueRow("places", places(x, 4), 0, RIGHT, 1, RIGHT, -1, -1, -1, -1);
        check.due("e by a", Check.parted(x, 1), 1);
        check.due("g by none", Check.parted(x, 3), 0);
        x.does(0, 0, RIGHT);
        check.due("a's right is busy", Check.parted(x, 0, 0), 1);
        check.dueRow("places", places(x, 2), 1, RIGHT, -1, -1);
        check.due("two are not free", Check.parted(x, 1), 0);
        x.days(1);
        x.days(1);
        x.days(1);
        check.due("c is out", Check.parted(x, 3, 3, 3), 2);

        x = Check.duchyOf("person a 1 1;person b 1 1;person c 1 1;person d 1 1;person e 1 1;person f 9 1;person g 9 9;deed h 9 1 0;"
                + "deed i 18 1 0 both;");
        check.due("the last ones", Check.parted(x, 0, 0, 0, 0), 3);
        check.dueRow("places", places(x, 4), 5, RIGHT, 6, RIGHT, 6, LEFT, -1, -1);
        check.due("the last one's two", Check.parted(x, 0, 1), 2);
        check.dueRow("places", places(x, 2), 5, RIGHT, 6, TWO);

        check.says("no hand for two of them");
        x = Check.duchyOf("person a 5 5;deed d 1 1 0;deed e 1 1 0 both;");
        check.due("three for two hands", Check.parted(x, 0, 0, 0), 2);
        check.dueRow("places", places(x, 3), 0, RIGHT, 0, LEFT, -1, -1);
        check.due("both, and one", Check.parted(x, 1, 0), 1);
        check.dueRow("places", places(x, 2), 0, TWO, -1, -1);
        check.due("one, and both", Check.parted(x, 0, 1), 1);
        check.due("both twice", Check.parted(x, 1, 1), 1);
        check.due("both, and two: two are more", Check.parted(x, 1, 0, 0), 2);
        check.dueRow("places", places(x, 3), -1, -1, 0, RIGHT, 0, LEFT);
    }

    private void partedWithoutBlame() {
        check.says("nobody blamed (no DEED with BLAME above 0 by the right, or by two, of one who is SEEN)");
        LeftAnswers x = Check.duchyOf("person a 5 5;person b 1 1;deed d 2 1 1;deed e 2 1 0;deed f 9 1 1 both;deed g 9 1 0 both;"
                + "sees b a;");
        check.due("by the left alone", Check.parted(x, 0, 0), 1);
        check.dueRow("places", places(x, 2), 0, LEFT, -1, -1);
        check.due("without blame by both", Check.parted(x, 1, 1), 2);
        check.due("by two", Check.parted(x, 2), 0);
        check.due("without blame by two", Check.parted(x, 3), 1);
        x = Check.duchyOf("person a 5 5;person b 1 1;deed d 2 1 1;deed f 9 1 1 both;");
        check.due("not seen", Check.parted(x, 0, 0), 2);
        check.due("not seen, by two", Check.parted(x, 1), 1);
        x = Check.duchyOf("person a 5 5;person b 3 1;deed d 2 1 9;sees b a;sees a b;law 9;");
        x.does(1, 0, RIGHT);
        check.due("the watcher is jailed", Check.parted(x, 0, 0), 2);
    }

    private void partedFirst() {
        check.says("of like ones the first: DEED by DEED the least PERSON, then the least HAND, none behind all.");
        LeftAnswers x = Check.duchyOf("person a 5 5;person b 5 5;deed d 1 1 0;deed e 1 1 0 both;");
        check.due("one", Check.parted(x, 0), 1);
        check.dueRow("the least person and hand", places(x, 1), 0, RIGHT);
        check.due("three", Check.parted(x, 0, 0, 0), 3);
        check.dueRow("hand by hand", places(x, 3), 0, RIGHT, 0, LEFT, 1, RIGHT);
        check.due("one and both", Check.parted(x, 0, 1), 2);
        check.dueRow("the first deed first", places(x, 2), 0, RIGHT, 1, TWO);
        check.due("both, both, one", Check.parted(x, 1, 1, 0), 2);
        check.dueRow("none behind all", places(x, 3), 0, TWO, 1, TWO, -1, -1);
        check.due("one, both, both", Check.parted(x, 0, 1, 1), 2);
        check.dueRow("none behind all", places(x, 3), 0, RIGHT, 1, TWO, -1, -1);
        check.due("both, one, one, one: the most first", Check.parted(x, 1, 0, 0, 0), 3);
        check.dueRow("places", places(x, 4), 0, TWO, 1, RIGHT, 1, LEFT, -1, -1);
        check.due("one, one, one, both", Check.parted(x, 0, 0, 0, 1), 3);
        check.dueRow("places", places(x, 4), 0, RIGHT, 0, LEFT, 1, RIGHT, -1, -1);
    }

    private void fits() {
        check.says("FITS by the tape (pairs of bytes: a DEED, 1 it was done, 0 it can't be done; 1 to 6 of them)");
        LeftAnswers x = Check.duchyOf("person a 5 3;deed d 4 1 0;deed e 8 1 0 both;");
        check.due("none", Check.fits(x), -1);
        check.due("half a pair", Check.fits(x, 0), -1);
        check.due("one", Check.fits(x, 0, 1), 1);
        check.due("one and a half", Check.fits(x, 0, 1, 0), -1);
        check.due("six", Check.fits(x, 0, 1, 0, 1, 0, 1, 0, 1, 0, 1, 0, 1), 1);
        check.due("six, the last one counts", Check.fits(x, 0, 1, 0, 1, 0, 1, 0, 1, 0, 1, 1, 1), 0);
        check.due("six and a half", Check.fits(x, 0, 1, 0, 1, 0, 1, 0, 1, 0, 1, 0, 1, 0), -1);
        check.due("seven", Check.fits(x, 0, 1, 0, 1, 0, 1, 0, 1, 0, 1, 0, 1, 0, 1), -1);
        check.due("the last deed", Check.fits(x, 1, 1), 1);
        check.due("no such deed", Check.fits(x, 2, 1), -1);
        check.due("no such deed", Check.fits(x, 0, 1, 255, 1), -1);
        check.due("it can't be done", Check.fits(x, 0, 0), 2);
        check.due("neither 1 nor 0", Check.fits(x, 0, 2), -1);
        check.due("neither 1 nor 0", Check.fits(x, 0, 1, 0, 255), -1);
        check.due("no deeds", Check.fits(Check.duchyOf("person a 1 1;"), 0, 1), -1);
        check.due("no persons", Check.fits(Check.duchyOf("deed d 1 1 1;"), 0, 0), 0);
    }

    private void fitsNoMatter() {
        check.says("by whose SKILL, and by how many hands it needs, just so (JAILED, GLOVED or busy no matter)");
        LeftAnswers x = Check.duchyOf("person a 5 3;person b 4 6;deed d 5 1 9;deed e 8 1 0 both;deed f 9 1 0 both;sees b a;law 9;");
        check.due("d", Check.fits(x, 0, 1), 2);
        check.dueRow("hands", new int[] {x.fitAt(0), x.fitAt(1), x.fitAt(2)}, 0, 4, -1);
        check.due("not d", Check.fits(x, 0, 0), 4);
        check.dueRow("two of each among them", new int[] {x.fitAt(0), x.fitAt(1), x.fitAt(2), x.fitAt(3), x.fitAt(4)},
                1, 2, 3, 5, -1);
        check.due("e, just as hard", Check.fits(x, 1, 1), 2);
        check.due("e, not f", Check.fits(x, 1, 1, 2, 0), 1);
        check.due("a's two", x.fitAt(0), 2);
        check.due("neither", Check.fits(x, 0, 0, 1, 0), 2);
        check.due("d done and not", Check.fits(x, 0, 1, 0, 0), 0);
        x.glove(1);
        x.does(0, 0, RIGHT);
        check.due("a is jailed", x.now(1), 1);
        check.due("d, no matter", Check.fits(x, 0, 1), 2);
        check.due("e, no matter", Check.fits(x, 1, 1), 2);
    }

    private void tests() {
        check.says("TEST: the DEED that as many of these can do as not, as nearly as may be (of like ones the first).");
        LeftAnswers x = Check.duchyOf("person a 1 2;person b 3 4;deed d 1 1 1;deed e 4 1 1;deed f 3 1 1;deed g 2 1 1;"
                + "deed h 9 1 1 both;");
        check.due("one hand each", Check.fits(x, 0, 1), 4);
        check.due("two of four", x.test(), 2);
        check.due("those who can f", Check.fits(x, 2, 1), 2);
        check.due("one of two", x.test(), 1);
        check.due("those who can g", Check.fits(x, 3, 1), 3);
        check.due("one of three, and two of three: the first", x.test(), 1);
        check.due("b's left", Check.fits(x, 1, 1), 1);
        check.due("all alike: the first", x.test(), 0);
        check.due("none can h", Check.fits(x, 4, 0), 6);
        check.due("two of six, or three", x.test(), 3);
        x = Check.duchyOf("person a 1 2;deed d 9 1 1;deed e 9 1 1;deed f 9 1 1;deed g 9 1 1;deed h 9 1 1;deed i 9 1 1;deed j 1 1 1;"
                + "deed k 2 1 1;");
        Check.fits(x, 6, 1);
        check.due("the last of eight", x.test(), 7);
    }

    private static LeftAnswers ring(int persons, boolean closed) {
        StringBuilder text = new StringBuilder();
        for (int p = 0; p < persons; p++) {
            text.append("person ").append((char) ('a' + p)).append(" 1 1;");
        }
        for (int p = 0; p + 1 < persons + (closed ? 1 : 0); p++) {
            text.append("sees ").append((char) ('a' + p)).append(' ').append((char) ('a' + (p + 1) % persons)).append(';');
        }
        return Check.duchyOf(text.toString());
    }

    private void hearing() {
        check.says("a PERSON hears of whom he watches, and of whom those hear, one watcher more each");
        LeftAnswers x = ring(7, true);
        for (int p = 0; p < 7; p++) {
            for (int q = 0; q < 7; q++) {
                check.due(p + " of " + q, x.hears(p, q), (q - p + 7) % 7);
            }
        }
        x = ring(7, false);
        check.due("the longest way", x.hears(0, 6), 6);
        check.due("not back", x.hears(6, 0), -1);
        x = Check.duchyOf("person a 1 1;person b 1 1;person c 1 1;person d 1 1;sees a b;sees b c;sees c d;sees a c;sees d a;");
        check.due("the shorter way", x.hears(0, 3), 2);
        check.due("round", x.hears(1, 0), 3);
    }

    private void guards() {
        check.says("the fewest PERSONS such that each other one is watched by one of them; of like ones the least as bits");
        LeftAnswers x = new LeftAnswers();
        check.due("nobody is there", x.guards(), 0);
        check.due("nobody is there", x.guarding(), 0);
        x = Check.duchyOf("person a 1 1;");
        check.due("one", x.guards(), 1);
        check.due("he", x.guarding(), 1);
        x = ring(7, true);
        check.due("a ring of seven", x.guards(), 4);
        check.due("the least as bits", x.guarding(), 1 | 2 | 8 | 32);
        x = ring(7, false);
        check.due("a row of seven", x.guards(), 4);
        check.due("the least as bits", x.guarding(), 1 | 2 | 8 | 32);
        x = ring(2, true);
        check.due("two who watch one another", x.guards(), 1);
        check.due("the least as bits", x.guarding(), 1);
        x = Check.duchyOf("person a 1 1;person b 1 1;person c 1 1;person d 1 1;person e 1 1;person f 1 1;person g 1 1;");
        check.due("nobody watches", x.guards(), 7);
        check.due("all", x.guarding(), 127);
        x = Check.duchyOf("person a 1 1;person b 1 1;person c 1 1;deed d 1 1 9;sees c a;sees c b;sees a c;law 9;");
        x.does(2, 0, RIGHT);
        check.due("the jailed one counts", x.guards(), 1);
        check.due("the jailed one", x.guarding(), 4);
    }

    private static int[] partners(LeftAnswers x, int n) {
        int[] row = new int[n];
        for (int p = 0; p < n; p++) {
            row[p] = x.bestOf(p);
        }
        return row;
    }

    private static String both(String p, String q, int fondness) {
        return "fond " + p + " " + q + " " + fondness + ";fond " + q + " " + p + " " + fondness + ";";
    }

    private void best() {
        String five = "person a 1 1;person b 1 1;person c 1 1;person d 1 1;person e 1 1;deed bad 1 1 9;law 9;";
        check.says("pairs of PERSONS who are not wed, GLOVED or JAILED, whose lefts are both fond of one another");
        LeftAnswers x = Check.duchyOf(five + "sees e a;fond a b 9;fond b c 2;fond c b 3;" + both("a", "c", 1));
        check.due("one way is none", x.best(), 5);
        x.glove(1);
        check.due("b is gloved", x.best(), 2);
        x.bare(1);
        x.wed(3, 2);
        check.due("c is wed", x.best(), 0);
        x.part(3);
        check.due("c is not", x.best(), 5);
        x.glove(1);
        x.does(0, 0, RIGHT);
        check.due("a is jailed", x.best(), 0);
        check.dueRow("no pairs", partners(x, 5), -1, -1, -1, -1, -1);
        x = Check.duchyOf(five + "fond c a 9;" + both("b", "d", 1) + both("d", "e", 1) + "sees a e;");
        check.due("one way back is none", x.best(), 2);
        x.does(4, 0, RIGHT);
        check.due("the second, e, is jailed", x.best(), 2);
        check.due("b and d", x.bestOf(1), 3);
        x.glove(1);
        check.due("d is left with a jailed one", x.best(), 0);
        x.bare(1);
        x.glove(3);
        check.due("the second, d, is gloved", x.best(), 0);
        x.bare(3);
        x.wed(3, 0);
        check.due("the second, d, is wed", x.best(), 0);
        check.due("nobody is there", new LeftAnswers().best(), 0);

        check.says("the most fondness in all (both ways); of like ones the first: PERSON by PERSON the least partner, none behind all");
        x = Check.duchyOf(five + both("a", "b", 5) + both("b", "c", 9) + both("c", "d", 5));
        check.due("two pairs are more", x.best(), 20);
        check.dueRow("partners", partners(x, 5), 1, 0, 3, 2, -1);
        x = Check.duchyOf(five + both("a", "b", 4) + both("b", "c", 9) + both("c", "d", 4));
        check.due("one pair is more", x.best(), 18);
        check.dueRow("partners", partners(x, 5), -1, 2, 1, -1, -1);
        x = Check.duchyOf(five + both("a", "b", 1) + both("b", "c", 2) + both("c", "d", 1));
        check.due("alike: a has a partner", x.best(), 4);
        check.dueRow("none behind all", partners(x, 5), 1, 0, 3, 2, -1);
        x = Check.duchyOf(five + both("a", "e", 3) + both("a", "c", 3) + both("b", "e", 1));
        check.due("more by c", x.best(), 8);
        check.dueRow("partners", partners(x, 5), 2, 4, 0, -1, 1);
        x = Check.duchyOf(five + both("a", "e", 3) + both("a", "d", 3));
        check.due("alike: the least partner", x.best(), 6);
        check.dueRow("partners", partners(x, 5), 3, -1, -1, 0, -1);
        x = Check.duchyOf(five + both("a", "b", 2) + both("c", "d", 2) + both("c", "e", 2));
        check.due("alike: the least partner of the next", x.best(), 8);
        check.dueRow("partners", partners(x, 5), 1, 0, 3, 2, -1);
    }

    private void earns() {
        check.says("the most PAY in one DAY without blame, if his hands had done nothing yet and he was not JAILED");
        String deeds = "deed d 4 7 1;deed e 4 3 0;deed f 10 20 1 both;deed g 10 13 0 both;";
        LeftAnswers x = Check.duchyOf("person a 5 5;person b 5 5;" + deeds + "sees b a;law 1;");
        check.due("seen: two without blame", x.earns(0), 13);
        check.due("not seen", x.earns(1), 20);
        x.does(1, 2, TWO);
        check.due("his hands did", x.earns(1), 20);
        x.does(0, 0, RIGHT);
        check.due("he is jailed", x.now(1), 1);
        check.due("no matter", x.earns(0), 13);

        check.says("by one DEED with two, or by one with the right and one with the left (each or none)");
        x = Check.duchyOf("person a 5 5;deed d 5 7 0;deed e 10 13 0 both;");
        check.due("each is more", x.earns(0), 14);
        x = Check.duchyOf("person a 5 5;deed d 5 7 0;deed e 10 15 0 both;");
        check.due("two is more", x.earns(0), 15);
        x = Check.duchyOf("person a 5 4;deed d 5 7 0;");
        check.due("the left none", x.earns(0), 7);
        x = Check.duchyOf("person a 4 5;deed d 5 7 0;");
        check.due("the right none", x.earns(0), 7);
        x = Check.duchyOf("person a 4 4;deed d 5 7 0;deed e 9 7 0 both;");
        check.due("none", x.earns(0), 0);
        check.due("no deeds", Check.duchyOf("person a 4 4;").earns(0), 0);
        x = Check.duchyOf("person a 5 5;person b 1 1;deed d 5 7 1;deed e 5 2 0;sees b a;");
        check.due("the left is not blamed", x.earns(0), 9);
        x.glove(0);
        check.due("gloved: the right alone", x.earns(0), 2);
        x = Check.duchyOf("person a 9 9;deed d 5 30 0;");
        check.due("30 twice", x.earns(0), 60);
        x = Check.duchyOf("person a 9 9;deed d 5 1 0;deed e 5 1 0;deed f 5 1 0;deed g 5 1 0;deed h 5 1 0;deed i 5 1 0;"
                + "deed j 18 4 0 both;deed k 9 3 0;");
        check.due("the last of eight", x.earns(0), 6);
    }

    private void slip(LeftAnswers x, int p, String due) {
        String got = Check.slip(x, p);
        check.due("'" + got + "' is '" + due + "'", got.equals(due), true);
    }

    private void slips() {
        check.says("his NAME, ' owns ' and coins as digits, then ' in cell ' and DAYS as digits, if he is JAILED, ' gloved', if he is, ' wed to ' and a NAME, if he is.");
        LeftAnswers x = Check.duchyOf("person a 5 5;person tuvwxyz 5 5;person c 5 5;deed d 1 9 9;deed e 1 1 0;deed f 1 30 0;"
                + "sees c a;law 9;cell 10;");
        slip(x, 0, "a owns 0");
        x.does(0, 1, LEFT);
        slip(x, 0, "a owns 1");
        x.does(0, 0, RIGHT);
        slip(x, 0, "a owns 10 in cell 10");
        x.days(1);
        slip(x, 0, "a owns 10 in cell 9");
        x.glove(0);
        slip(x, 0, "a owns 10 in cell 9 gloved");
        x.bare(0);
        x.days(8);
        slip(x, 0, "a owns 10 in cell 1");
        x.days(1);
        slip(x, 0, "a owns 10");
        x.wed(1, 0);
        slip(x, 0, "a owns 10 wed to tuvwxyz");
        slip(x, 1, "tuvwxyz owns 0 wed to a");
        x.does(0, 0, RIGHT);
        slip(x, 0, "a owns 19 in cell 10 wed to tuvwxyz");
        slip(x, 2, "c owns 0");
        for (int day = 0; day < 17; day++) {
            x.does(2, 2, RIGHT);
            x.does(2, 2, LEFT);
            x.days(1);
            if (day == 1) {
                slip(x, 2, "c owns 120");
            }
        }
        slip(x, 2, "c owns 999");
        slipsOfDigits();
    }

    private void slipsOfDigits() {
        LeftAnswers x = Check.duchyOf("person a 5 5;deed d 1 30 0;deed e 1 9 0;deed f 1 1 0;");
        x.does(0, 1, RIGHT);
        slip(x, 0, "a owns 9");
        for (int day = 1; day <= 3; day++) {
            x.days(1);
            x.does(0, 0, RIGHT);
        }
        slip(x, 0, "a owns 99");
        x.days(1);
        x.does(0, 2, RIGHT);
        slip(x, 0, "a owns 100");
        x.does(0, 2, LEFT);
        slip(x, 0, "a owns 101");
        x.days(1);
        x.does(0, 1, LEFT);
        slip(x, 0, "a owns 110");
    }

    /** The draws of the document, told once more. */
    private static final class Draws {
        private int x;

        Draws(int seed) {
            x = seed;
        }

        int of(int n) {
            x = x * 1103515245 + 12345;
            return (x >>> 8) % n;
        }
    }

    private void draws() {
        check.says("x becomes x * 1103515245 + 12345 (an int, wrapping), the draw is (x >>> 8) % n");
        for (int seed : new int[] {0, 1, -1, 7, Integer.MAX_VALUE, Integer.MIN_VALUE, 123456789}) {
            LeftAnswers x = Check.duchyOf("person a 9 9;deed d 1 1 0;deed e 1 20 0;deed f 1 3 0;");
            Draws draws = new Draws(seed);
            int coins = 0;
            int ideas = 0;
            for (int day = 0; day < 20; day++) {
                int pay = new int[] {1, 20, 3}[draws.of(3)];
                int hand = draws.of(3);
                coins += hand == TWO ? 0 : pay;
                ideas += hand == LEFT ? 1 : 0;
                if (draws.of(8) == 0) {
                    draws.of(1);
                }
            }
            check.due("drawn", x.drawn(20, seed), 20);
            check.due("coins by " + seed, x.now(5), coins);
            check.due("ideas by " + seed, x.person(0, 3), ideas);
        }

        check.says("a draw of all DEEDS (none: no draw), and, if it was made, a draw of 3");
        LeftAnswers one = Check.duchyOf("person a 9 9;deed d 1 1 0;");
        Draws ofOne = new Draws(5);
        int done = 0;
        for (int day = 0; day < 30; day++) {
            ofOne.of(1);
            done += ofOne.of(3) == TWO ? 0 : 1;
            if (ofOne.of(8) == 0) {
                ofOne.of(1);
            }
        }
        one.drawn(30, 5);
        check.due("one deed is drawn, too", one.now(7), done);
        for (int seed = -30; seed < 30; seed++) {
            LeftAnswers x = Check.duchyOf("person a 9 9;person b 9 9;");
            Draws draws = new Draws(seed);
            boolean wed = false;
            for (int turn = 0; turn < 10; turn++) {
                int way = draws.of(8);
                if (way == 0) {
                    wed |= draws.of(2) != turn % 2;
                } else if (way == 1) {
                    wed = false;
                }
            }
            x.drawn(5, seed);
            check.due("wed by " + seed, x.now(3), wed ? 3 : 0);
        }
    }

    private void drawsIfHeCan() {
        check.says("he weds that one, 1 he parts (each, if he can); then the DAY.");
        for (int seed = 0; seed < 40; seed++) {
            LeftAnswers x = Check.duchyOf("person a 5 5;person b 9 9 gloved;deed d 6 1 0;deed e 5 2 0;");
            Draws draws = new Draws(seed);
            int[] coins = new int[2];
            for (int turn = 0; turn < 6; turn++) {
                int deed = draws.of(2);
                int hand = draws.of(3);
                boolean canA = turn % 2 == 0 && deed == 1 && hand != TWO;
                boolean canB = turn % 2 == 1 && hand == RIGHT;
                coins[turn % 2] += canA || canB ? deed + 1 : 0;
                if (draws.of(8) == 0) {
                    draws.of(2);
                }
            }
            x.drawn(3, seed);
            check.due("of a by " + seed, x.person(0, 0), coins[0]);
            check.due("of b by " + seed, x.person(1, 0), coins[1]);
            check.due("none can wed by " + seed, x.now(3), 0);
            check.due("days by " + seed, x.now(0), 3);
        }
    }

    private void throwing() {
        check.says("A call that throws changes nothing.");
        LeftAnswers x = Check.duchyOf(Check.ANN_TO_DOT);
        x.does(0, 0, RIGHT);
        Check.sentence(x, "busy");
        Check.duchy(x, "law 0;");
        Check.feed(x, "abc");
        check.due("no such person", Check.throwsNoSuchElement(x, 4, 0), true);
        check.due("no such question", Check.throwsNoSuchElement(x, 0, 8), true);
        check.dueRow("all is as it was", new int[] {x.count(0), x.count(5), x.fault(), x.now(0), x.now(5), x.now(7), x.said(-1),
            x.person(0, 6), x.undo()}, 4, 3, 2, 0, 6, 1, 1, 1, 0);
    }
}
