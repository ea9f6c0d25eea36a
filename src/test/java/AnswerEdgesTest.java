/** Promises 18 to 40: each sentence under their headings that names an edge, by itself. */
public final class AnswerEdgesTest {
    private static final int[] FAR = {-1, Integer.MIN_VALUE, Integer.MAX_VALUE, 1 << 16, 256, -256, 7, 8};
    private static final String SEVEN = "person a 5 5;person b 5 5;person c 5 5;person d 5 5;person e 5 5;person f 5 5;"
            + "person g 5 5;";

    private final Check check = new Check();

    public static void main(String[] args) {
        AnswerEdgesTest test = new AnswerEdgesTest();
        test.parted();
        test.partedAt();
        test.fits();
        test.tests();
        test.hears();
        test.guards();
        test.best();
        test.earnsAndRichest();
        test.slips();
        test.drawn();
        test.odds();
        test.bookAnswers();
        test.bookLives();
        test.toldWhy();
        test.toldRest();
        test.sentences();
        test.said();
        test.images();
        test.restores();
        test.restoresAll();
        test.counts();
        test.check.duePromises(18, 40);
        test.check.close("AnswerEdgesTest");
    }

    private void parted() {
        check.promises(18, "PARTED: how many; NONE: not as told.");
        LeftAnswers x = Check.duchyOf("person a 5 5;deed d 6 1 0;deed e 5 1 0;");
        check.due("an empty tape", Check.parted(x), -1);
        check.due("none can be done", Check.parted(x, 0), 0);
        check.due("one of two", Check.parted(x, 0, 1), 1);
        check.due("two of four", Check.parted(x, 1, 1, 1, 1), 2);
        check.due("five", Check.parted(x, 1, 1, 1, 1, 1), -1);
        check.due("no such deed", Check.parted(x, 1, 2), -1);
        check.due("nothing is done by it", x.now(7), 0);
        check.due("nothing is done by it", x.undo(), -1);
    }

    private void partedAt() {
        check.promises(19, "by the latest parted() that was not NONE: 0 the PERSON, 1 the HAND");
        LeftAnswers x = Check.duchyOf(SEVEN + "deed h 6 1 0;deed i 5 1 0;deed j 10 1 0 both;");
        Check.parted(x, 2, 0, 2, 1);
        check.dueRow("places", places(x), 0, 2, -1, -1, 1, 2, 2, 0);
        check.due("a NONE", Check.parted(x, 9), -1);
        check.due("a NONE", Check.parted(x, 1, 1, 1, 1, 1), -1);
        check.dueRow("leaves them", places(x), 0, 2, -1, -1, 1, 2, 2, 0);
        x.does(0, 2, 2);
        x.days(1);
        Check.duchy(x, "person z 1 1;deed y 9 1 1;");
        check.dueRow("they stay", places(x), 0, 2, -1, -1, 1, 2, 2, 0);
        check.due("0 is not NONE", Check.parted(x, 0), 0);
        check.dueRow("none of them", places(x), -1, -1, -1, -1, -1, -1, -1, -1);

        check.promises(19, "NONE: it is not done, no such ones, or ahead of any");
        x = Check.duchyOf("person a 5 5;deed d 6 1 0;deed e 5 1 0;");
        check.due("ahead of any", x.partedAt(0, 0), -1);
        Check.parted(x);
        check.due("ahead of any that was not NONE", x.partedAt(0, 0), -1);
        Check.parted(x, 1, 0);
        check.due("done", x.partedAt(0, 0), 0);
        check.due("not done", x.partedAt(1, 0), -1);
        check.due("not done", x.partedAt(1, 1), -1);
        check.due("one deed more", x.partedAt(2, 0), -1);
        check.due("one to ask more", x.partedAt(0, 2), -1);
        for (int far : FAR) {
            check.due("partedAt(" + far + ", 0)", x.partedAt(far, 0), -1);
            check.due("partedAt(0, " + far + ")", x.partedAt(0, far), -1);
        }
        Check.parted(x, 1, 1, 1, 1);
        Check.parted(x, 1);
        check.due("the longer one is over", x.partedAt(1, 0), -1);
    }

    private static int[] places(LeftAnswers x) {
        int[] row = new int[8];
        for (int i = 0; i < 8; i++) {
            row[i] = x.partedAt(i / 2, i % 2);
        }
        return row;
    }

    private void fits() {
        check.promises(20, "FITS: how many HANDS; NONE: not as told.");
        LeftAnswers x = Check.duchyOf(SEVEN + "deed h 6 1 0;deed i 5 1 0;deed j 10 1 0 both;");
        check.due("an empty tape", Check.fits(x), -1);
        check.due("none", Check.fits(x, 0, 1), 0);
        check.due("all", Check.fits(x, 0, 0), 21);
        check.due("right and left", Check.fits(x, 1, 1), 14);
        check.due("two", Check.fits(x, 2, 1), 7);
        check.due("no such deed", Check.fits(x, 3, 1), -1);

        check.promises(21, "by the latest fits() above 0: three by the PERSON and the HAND");
        check.dueRow("two of each", new int[] {x.fitAt(0), x.fitAt(1), x.fitAt(6)}, 2, 5, 20);
        Check.fits(x, 0, 1);
        check.due("a fits() of 0", x.fitAt(6), 20);
        Check.fits(x, 9, 9);
        check.due("a fits() of NONE", x.fitAt(6), 20);
        Check.fits(x, 0, 0);
        for (int k = 0; k < 21; k++) {
            check.due("all, " + k, x.fitAt(k), k);
        }
        Check.duchy(x, "person z 1 1;");
        check.due("it stays", x.fitAt(20), 20);

        check.promises(21, "NONE: none such, or ahead of any");
        check.due("one more", x.fitAt(21), -1);
        for (int far : FAR) {
            check.due("fitAt(" + far + ")", x.fitAt(far), far == 7 || far == 8 ? far : -1);
        }
        x = Check.duchyOf("person a 5 5;deed d 6 1 0;deed e 5 1 0;");
        check.due("ahead of any", x.fitAt(0), -1);
        Check.fits(x, 0, 1);
        check.due("ahead of any above 0", x.fitAt(0), -1);
        Check.fits(x, 1, 1);
        check.dueRow("two", new int[] {x.fitAt(0), x.fitAt(1), x.fitAt(2)}, 0, 1, -1);
    }

    private void tests() {
        check.promises(22, "TEST by that (as it was then); NONE ahead of any.");
        LeftAnswers x = Check.duchyOf("person a 1 3;deed d 9 1 0;deed e 2 1 0;deed f 1 1 0;");
        check.due("ahead of any", x.test(), -1);
        Check.fits(x, 0, 1);
        check.due("ahead of any above 0", x.test(), -1);
        Check.fits(x, 2, 1);
        check.due("one of two", x.test(), 1);
        Check.fits(x, 0, 1);
        check.due("a fits() of 0", x.test(), 1);
        Check.fits(x, 3, 1);
        check.due("a fits() of NONE", x.test(), 1);
        Check.duchy(x, "person a 1 1;deed d 1 1 0;");
        check.due("as it was then", x.test(), 1);
        Check.fits(x, 0, 1);
        check.due("the latest", x.test(), 0);
    }

    private void hears() {
        check.promises(23, "how many watchers it takes till p hears of q (1: he watches him; 0: alike); NONE: he never does, no such ones.");
        LeftAnswers x = Check.duchyOf("person a 5 5;person b 5 5;person c 5 5;deed d 1 1 9;sees a b;sees b c;sees c b;law 9;");
        check.due("he watches him", x.hears(0, 1), 1);
        check.due("one more", x.hears(0, 2), 2);
        check.due("alike", x.hears(0, 0), 0);
        check.due("alike, though he is watched", x.hears(1, 1), 0);
        check.due("never", x.hears(2, 0), -1);
        check.due("one person more", x.hears(0, 3), -1);
        check.due("one person more, alike", x.hears(3, 3), -1);
        for (int far : FAR) {
            check.due("hears(" + far + ", 0)", x.hears(far, 0), -1);
            check.due("hears(0, " + far + ")", x.hears(0, far), -1);
        }
        x.does(1, 0, 0);
        check.due("a jailed one watches still", x.hears(0, 2), 2);
    }

    private void guards() {
        check.promises(24, "GUARDS: how many.");
        LeftAnswers x = new LeftAnswers();
        check.due("none", x.guards(), 0);
        check.due("all of seven", Check.duchyOf(SEVEN).guards(), 7);
        check.due("one of seven", Check.duchyOf(SEVEN + "sees g a;sees g b;sees g c;sees g d;sees g e;sees g f;").guards(), 1);

        check.promises(25, "Who, as bits, by the latest guards(); NONE ahead of any.");
        x = Check.duchyOf("person a 5 5;person b 5 5;sees b a;");
        check.due("ahead of any", x.guarding(), -1);
        x.guards();
        check.due("b", x.guarding(), 2);
        Check.duchy(x, SEVEN);
        check.due("the latest still", x.guarding(), 2);
        x.guards();
        check.due("all", x.guarding(), 127);
        x.duchy();
        x.guards();
        check.due("nobody is not NONE", x.guarding(), 0);
    }

    private void best() {
        check.promises(26, "BEST: how much fondness.");
        check.due("nobody", new LeftAnswers().best(), 0);
        check.due("nobody is fond", Check.duchyOf(SEVEN).best(), 0);
        LeftAnswers x = Check.duchyOf(SEVEN + "fond a b 9;fond b a 9;fond c d 9;fond d c 9;fond e f 9;fond f e 9;fond g a 9;fond a g 9;");
        check.due("three pairs of seven", x.best(), 54);

        check.promises(27, "The partner of a PERSON by the latest best(); NONE: none, no such one, or ahead of any.");
        check.dueRow("of each", partners(x, 8), 1, 0, 3, 2, 5, 4, -1, -1);
        x.wed(0, 1);
        check.due("by the latest", x.bestOf(0), 1);
        check.due("the next", x.best(), 36);
        check.dueRow("of each", partners(x, 8), -1, -1, 3, 2, 5, 4, -1, -1);
        for (int far : FAR) {
            check.due("bestOf(" + far + ")", x.bestOf(far), -1);
        }
        x = Check.duchyOf("person a 5 5;person b 5 5;fond a b 9;fond b a 9;");
        check.dueRow("ahead of any", partners(x, 2), -1, -1);
        x.best();
        check.due("one person more", x.bestOf(2), -1);
        Check.duchy(x, SEVEN + "fond f g 1;fond g f 1;");
        x.best();
        Check.duchy(x, "person a 5 5;person b 5 5;");
        x.best();
        Check.duchy(x, SEVEN);
        check.dueRow("none by the latest", partners(x, 7), -1, -1, -1, -1, -1, -1, -1);
    }

    private static int[] partners(LeftAnswers x, int n) {
        int[] row = new int[n];
        for (int p = 0; p < n; p++) {
            row[p] = x.bestOf(p);
        }
        return row;
    }

    private void earnsAndRichest() {
        check.promises(28, "EARNS of a PERSON; NONE: no such one.");
        LeftAnswers x = Check.duchyOf("person a 5 5;person b 5 5;person c 5 5;deed d 1 7 0;");
        check.due("the last one", x.earns(2), 14);
        check.due("one more", x.earns(3), -1);
        for (int far : FAR) {
            check.due("earns(" + far + ")", x.earns(far), -1);
        }
        check.due("nobody", new LeftAnswers().earns(0), -1);

        check.promises(29, "The PERSON who owns most (of like ones the first); NONE: there are none.");
        check.due("all alike", x.richest(), 0);
        x.does(2, 0, 0);
        check.due("the last one", x.richest(), 2);
        x.does(1, 0, 0);
        check.due("two alike", x.richest(), 1);
        x.does(2, 0, 1);
        check.due("the last one", x.richest(), 2);
        check.due("there are none", new LeftAnswers().richest(), -1);
    }

    private void slips() {
        check.promises(30, "SLIP of a PERSON: how many bytes; NONE: no such one.");
        LeftAnswers x = Check.duchyOf("person abcdefg 5 5;person tuvwxyz 5 5;deed d 1 30 0;deed e 1 30 9;sees tuvwxyz abcdefg;"
                + "law 9;cell 30;ideas 30;");
        check.due("a short one", x.slip(0), 14);
        x.wed(0, 1);
        for (int day = 0; day < 17; day++) {
            x.does(0, 0, 0);
            x.does(0, 0, 1);
            x.days(1);
        }
        x.does(0, 1, 0);
        check.due("the longest one", x.slip(0), "abcdefg owns 999 in cell 30 wed to tuvwxyz".length());
        check.due("one more", x.slip(2), -1);
        for (int far : FAR) {
            check.due("slip(" + far + ")", x.slip(far), -1);
        }

        check.promises(31, "Byte i of the latest SLIP; NONE: none such.");
        String due = "abcdefg owns 999 in cell 30 wed to tuvwxyz";
        for (int i = 0; i < due.length(); i++) {
            check.due("byte " + i, x.byteAt(i), due.charAt(i));
        }
        check.due("one more", x.byteAt(due.length()), -1);
        check.due("-1", x.byteAt(-1), -1);
        check.due("far", x.byteAt(Integer.MAX_VALUE), -1);
        check.due("far below", x.byteAt(Integer.MIN_VALUE), -1);
        x.part(0);
        check.due("it stays", x.byteAt(due.length() - 1), 'z');
        x.slip(1);
        check.due("the latest", x.byteAt(0), 't');
        check.due("the longer one is over", x.byteAt(14), -1);
        check.due("without any", new LeftAnswers().byteAt(0), -1);
    }

    private void drawn() {
        check.promises(32, "n (1 to 60) DAYS DRAWN by a seed: how many went by; NONE: not as told, no PERSONS.");
        LeftAnswers x = Check.duchyOf("person a 5 5;deed d 1 1 0;");
        check.due("none", x.drawn(0, 1), -1);
        check.due("one too many", x.drawn(61, 1), -1);
        check.due("far below", x.drawn(Integer.MIN_VALUE, 1), -1);
        check.due("far above", x.drawn(Integer.MAX_VALUE, 1), -1);
        check.due("none went", x.now(0), 0);
        check.due("the least", x.drawn(1, Integer.MIN_VALUE), 1);
        check.due("the most", x.drawn(60, Integer.MAX_VALUE), 60);
        check.due("they went", x.now(0), 61);
        for (int i = 0; i < 5; i++) {
            x.drawn(60, i);
        }
        check.due("fewer are left", x.drawn(60, 1), 39);
        int coins = x.now(5);
        int done = x.now(7);
        check.due("none is left", x.drawn(60, 1), 0);
        check.due("nothing is done", x.now(5), coins);
        check.due("nothing is done", x.now(7), done);
        check.due("still not as told", x.drawn(61, 1), -1);
        check.due("no persons", new LeftAnswers().drawn(1, 1), -1);
        check.due("deeds alone", Check.duchyOf("deed d 1 1 0;").drawn(1, 1), -1);
        check.due("persons alone", Check.duchyOf("person a 1 1;").drawn(1, 1), 1);
    }

    private void odds() {
        check.promises(33, "Of n (1 to 30) seeds x, x and 1, .. by how many a PERSON owns more than now behind 20 DAYS DRAWN from now on");
        LeftAnswers x = rarelyPaid();
        for (int first : new int[] {0, -15, 1000, Integer.MAX_VALUE - 14, Integer.MIN_VALUE}) {
            for (int p = 0; p < 2; p++) {
                int more = 0;
                for (int i = 0; i < 30; i++) {
                    x.image(0);
                    int before = x.person(p, 0);
                    x.drawn(20, first + i);
                    more += x.person(p, 0) > before ? 1 : 0;
                    x.restore(0);
                    if (i == 0) {
                        check.due("one seed, from " + first, x.odds(p, 1, first), more);
                    }
                }
                check.due("thirty seeds, from " + first, x.odds(p, 30, first), more);
            }
            x = rarelyPaid();
        }
        check.due("nothing is so by it", x.now(0), 0);
        check.due("nothing is so by it", x.now(7), 2);

        check.promises(33, "NONE: no such ones");
        check.due("no seeds", x.odds(0, 0, 1), -1);
        check.due("one too many", x.odds(0, 31, 1), -1);
        check.due("far below", x.odds(0, Integer.MIN_VALUE, 1), -1);
        check.due("one person more", x.odds(2, 1, 1), -1);
        check.due("no such person", x.odds(-1, 1, 1), -1);
        check.due("nobody", new LeftAnswers().odds(0, 1, 1), -1);
        for (int i = 0; i < 7; i++) {
            x.days(60);
        }
        check.due("no day is left", x.odds(0, 30, 1), 0);
    }

    /** A duchy where a draw is seldom a deed that can be done, anew for each 512 calls. */
    private static LeftAnswers rarelyPaid() {
        LeftAnswers x = Check.duchyOf("person a 5 5;person b 5 5;deed d 1 1 0;deed e 18 1 0 both;deed f 18 2 0 both;"
                + "deed g 18 3 0 both;deed h 18 3 0 both;deed i 18 3 0 both;deed j 18 3 0 both;deed k 18 3 0 both;ideas 1;");
        x.does(0, 0, 1);
        x.does(1, 0, 0);
        return x;
    }

    private void bookAnswers() {
        check.promises(34, "the LINE that is WRONG; NONE: none; -2 less the place of a FAULT; -1000: another lives (the tape stays)");
        LeftAnswers x = Check.duchyOf(Check.ANN_TO_DOT);
        check.due("an empty one", Check.book(x, "", 0), -1);
        check.due("none wrong", Check.book(x, "day 1;".repeat(40), 0), -1);
        check.due("the first", Check.book(x, "ann parts;day 1;", 0), 0);
        check.due("the second", Check.book(x, "day 1;ann parts;", 0), 1);
        check.due("the last of forty", Check.book(x, "day 1;".repeat(39) + "ann parts;", 0), 39);
        check.due("the first of two", Check.book(x, "day 1;ann parts;bob parts;", 0), 1);
        check.due("a fault at 0", Check.book(x, "!", 0), -2);
        check.due("a fault behind a wrong line", Check.book(x, "ann parts;!", 0), -12);
        check.due("a fault at the end", Check.book(x, "ann parts", 1), -11);
        check.due("a fault at 400", Check.book(x, " ".repeat(401), 1), -402);
        Check.feed(x, "day 1;");
        for (int far : FAR) {
            check.due("book(" + far + ")", x.book(far), -1000);
        }
        check.due("book(2)", x.book(2), -1000);
        check.due("the tape stays", x.count(5), 6);
        check.due("it is read then", x.book(1), -1);
        check.due("a day went", x.now(0), 1);
    }

    private void bookLives() {
        check.promises(34, "it is judged, all staying as it is (lives 0), or lived as far as it is not WRONG (1)");
        LeftAnswers x = Check.duchyOf(Check.ANN_TO_DOT);
        String text = "ann weds bob;day 2;dot does steal right;cid bares;ann gloves;day 3;";
        check.due("judged", Check.book(x, text, 0), 4);
        check.dueRow("all stays", now(x), 0, 0, 4, 0, 11, 0, 0, 0);
        check.due("lived", Check.book(x, text, 1), 4);
        check.dueRow("as far as it is not wrong", now(x), 2, 0, 0, 3, 11, 9, 0, 1);
        check.due("wrong at once", Check.book(x, "ann gloves;day 3;", 1), 0);
        check.dueRow("nothing of it", now(x), 2, 0, 0, 3, 11, 9, 0, 1);
        check.due("a fault", Check.book(x, "day 3;day 0;", 1), -12);
        check.dueRow("nothing of it", now(x), 2, 0, 0, 3, 11, 9, 0, 1);
        check.due("more days than are left", Check.book(x, "day 60;".repeat(6) + "day 39;", 1), 6);
        check.due("none of that line", x.now(0), 362);
        check.due("just as many", Check.book(x, "day 38;day 1;", 1), 1);
        check.due("all are over", x.now(0), 400);
    }

    private static int[] now(LeftAnswers x) {
        int[] row = new int[8];
        for (int what = 0; what < 8; what++) {
            row[what] = x.now(what);
        }
        return row;
    }

    private void why(String text, int line, int due) {
        for (int lives = 0; lives < 2; lives++) {
            LeftAnswers x = Check.duchyOf(Check.ANN_TO_DOT);
            check.due("book of: " + text, Check.book(x, text, lives), line);
            check.due("why of: " + text, x.told(0), due);
        }
    }

    private void toldWhy() {
        check.promises(35, "0 why it was WRONG (0: it was not; 1 to 5 as for doing, 11 to 14 wedding, 21 parting, 31, 32 gloving, 41 baring; 51: fewer DAYS are left)");
        String jail = "dot does steal right;day 1;dot does kiss right;";
        why("", -1, 0);
        why(jail, -1, 0);
        why(jail + "dot does sign right;", 3, 1);
        why("ann does sign right;ann does sign right;", 1, 2);
        why("ann does sign two;", 0, 3);
        why("ann does steal right;", 0, 4);
        why("cid does sign left;", 0, 5);
        why("bob weds bob;", 0, 11);
        why("ann weds bob;dot weds bob;", 1, 12);
        why("cid weds bob;", 0, 13);
        why(jail + "dot weds bob;", 3, 14);
        why("bob parts;", 0, 21);
        why("cid gloves;", 0, 31);
        why("ann weds bob;bob gloves;", 1, 32);
        why("bob bares;", 0, 41);
        why("day 60;".repeat(7), 6, 51);
        why("day 60;".repeat(6) + "day 40;", -1, 0);
        why("day 60;".repeat(6) + "day 40;day 1;", 7, 51);
        why("day 60;".repeat(6) + "day 41;", 6, 51);
    }

    private void toldRest() {
        check.promises(35, "1 LINES that are not, 2 the DAY then, 3 who is JAILED then, as bits");
        LeftAnswers x = Check.duchyOf(Check.ANN_TO_DOT);
        String jail = "dot does steal right;day 1;dot does kiss right;";
        check.due("judged", Check.book(x, jail, 0), -1);
        check.dueRow("told", told(x), 0, 3, 1, 8);
        check.due("jailed and out", Check.book(x, jail + "day 2;", 0), -1);
        check.dueRow("told", told(x), 0, 4, 3, 0);
        check.due("wrong", Check.book(x, jail + "day 1;dot parts;day 9;", 0), 4);
        check.dueRow("told", told(x), 21, 4, 2, 8);
        check.due("forty", Check.book(x, "day 1;".repeat(40), 0), -1);
        check.dueRow("told", told(x), 0, 40, 40, 0);

        check.promises(35, "Of the latest book() that had no FAULT (and was not -1000)");
        Check.book(x, "day 5;ann parts;day 0;", 0);
        check.dueRow("a fault leaves it", told(x), 0, 40, 40, 0);
        x.book(9);
        check.dueRow("another lives leaves it", told(x), 0, 40, 40, 0);
        x.days(7);
        Check.duchy(x, "person zoe 1 1;");
        check.dueRow("a new duchy leaves it", told(x), 0, 40, 40, 0);
        Check.book(x, "", 0);
        check.dueRow("an empty one", told(x), 0, 0, 0, 0);

        check.promises(35, "NONE: another what, or ahead of any");
        check.due("told(4)", x.told(4), -1);
        for (int far : FAR) {
            check.due("told(" + far + ")", x.told(far), -1);
        }
        x = new LeftAnswers();
        check.dueRow("ahead of any", told(x), -1, -1, -1, -1);
        Check.book(x, "!", 0);
        x.book(3);
        check.dueRow("ahead of any without a fault", told(x), -1, -1, -1, -1);
    }

    private static int[] told(LeftAnswers x) {
        return new int[] {x.told(0), x.told(1), x.told(2), x.told(3)};
    }

    private void sentences() {
        check.promises(36, "The tape is the SENTENCE now: how many ONES (each not, bracket and other one)");
        LeftAnswers x = Check.duchyOf(Check.ANN_TO_DOT);
        check.due("one", Check.sentence(x, "gloved"), 1);
        check.due("not and one", Check.sentence(x, "not gloved"), 2);
        check.due("bracket and one", Check.sentence(x, "(gloved)"), 2);
        check.due("'and', 'or' are none", Check.sentence(x, "wed and wed or wed"), 3);
        check.due("'to' with a person is one", Check.sentence(x, "to ann"), 1);
        check.due("a sign and a number are none", Check.sentence(x, "owns>5"), 1);
        check.due("twenty", Check.sentence(x, "not(wed)or ".repeat(6) + "not wed"), 20);
        check.due("the latest", x.said(-1), 4);

        check.promises(36, "-1 less the place of a FAULT: it stays");
        Check.sentence(x, "number>1");
        check.due("a fault at 0", x.sentence(), -1);
        check.due("a fault at 0", Check.sentence(x, "ann"), -1);
        check.due("a fault at 4", Check.sentence(x, "wed ann"), -5);
        check.due("a fault at 200", Check.sentence(x, "wed" + " ".repeat(198)), -201);
        check.due("it stays", x.said(-1), 2);
        check.due("it stays", x.said(0), 2);
        x = Check.duchyOf(Check.ANN_TO_DOT);
        Check.sentence(x, "wed or");
        check.due("none stays none", x.said(-1), -1);
    }

    private void said() {
        check.promises(37, "PERSONS of whom it may be said: how many (k NONE), or the k-th.");
        LeftAnswers x = Check.duchyOf(SEVEN);
        Check.sentence(x, "not wed");
        check.due("all", x.said(-1), 7);
        for (int k = 0; k < 7; k++) {
            check.due("said(" + k + ")", x.said(k), k);
        }
        x.wed(0, 5);
        check.due("as it is now", x.said(-1), 5);
        check.dueRow("those", new int[] {x.said(0), x.said(4), x.said(5)}, 1, 6, -1);
        Check.sentence(x, "jailed");
        check.due("nobody", x.said(-1), 0);

        check.promises(37, "NONE: there is no SENTENCE, none such.");
        check.due("none such", x.said(0), -1);
        Check.sentence(x, "wed");
        check.due("the last one", x.said(1), 5);
        check.due("one more", x.said(2), -1);
        for (int far : FAR) {
            check.due("said(" + far + ")", x.said(far), far == -1 ? 2 : -1);
        }
        check.due("below NONE", x.said(-2), -1);
        x = Check.duchyOf(SEVEN);
        check.due("no sentence", x.said(-1), -1);
        check.due("no sentence", x.said(0), -1);
        x = new LeftAnswers();
        Check.sentence(x, "not wed");
        check.due("no persons", x.said(-1), 0);
        check.due("no persons", x.said(0), -1);
    }

    private void images() {
        check.promises(38, "DUCHY, all that is so and the SENTENCE are kept in place k (0, 1): true; false: no such one.");
        LeftAnswers x = Check.duchyOf(Check.ANN_TO_DOT);
        x.does(0, 0, 0);
        check.due("image(2)", x.image(2), false);
        for (int far : FAR) {
            check.due("image(" + far + ")", x.image(far), false);
        }
        check.due("nothing was kept", x.restore(0), false);
        check.due("nothing was kept", x.restore(1), false);
        check.due("image(0)", x.image(0), true);
        check.due("nothing in the other", x.restore(1), false);
        x.days(5);
        check.due("image(1)", x.image(1), true);
        check.due("all stays", x.now(0), 5);
        check.due("acts can be undone", x.undo(), 1);
        x.days(9);
        x.restore(1);
        check.due("of 1", x.now(0), 5);
        x.restore(0);
        check.due("of 0", x.now(0), 0);
        x.days(2);
        x.image(0);
        x.days(2);
        x.restore(0);
        check.due("kept anew", x.now(0), 2);
        x = new LeftAnswers();
        check.due("without persons", x.image(1), true);
        Check.duchy(x, SEVEN);
        x.restore(1);
        check.due("without persons", x.count(0), 0);
    }

    private void restores() {
        check.promises(39, "false: no such one, or nothing is kept there");
        LeftAnswers x = Check.duchyOf(Check.ANN_TO_DOT);
        check.due("nothing is kept", x.restore(0), false);
        check.due("nothing is kept", x.restore(1), false);
        x.image(1);
        x.days(3);
        check.due("nothing is kept there", x.restore(0), false);
        check.due("no such one", x.restore(2), false);
        for (int far : FAR) {
            check.due("restore(" + far + ")", x.restore(far), false);
        }
        check.due("nothing is so by it", x.now(0), 3);
        check.due("acts can be undone", x.undo(), 0);

        check.promises(39, "(the tape, and what other calls told last, stays; nothing can be undone)");
        x = Check.duchyOf("person zoe 9 9;");
        x.image(0);
        Check.duchy(x, Check.ANN_TO_DOT);
        Check.parted(x, 0, 1);
        Check.fits(x, 3, 1);
        x.guards();
        x.best();
        x.slip(1);
        Check.book(x, "day 4;ann parts;", 0);
        Check.sentence(x, "to zoe");
        x.days(3);
        Check.feed(x, "abc");
        int[] before = toldLast(x);
        check.dueRow("told last", before, 3, 3, 0, 0, 1, 1, 0, 9, 1, 6, 3, 'b', 21, 1, 4);
        check.due("restore(0)", x.restore(0), true);
        check.due("another duchy", x.count(0), 1);
        check.dueRow("stays", toldLast(x), before);
        check.due("nothing can be undone", x.undo(), -1);
    }

    private static int[] toldLast(LeftAnswers x) {
        return new int[] {x.count(5), x.fault(), x.partedAt(0, 0), x.partedAt(0, 1), x.partedAt(1, 0), x.partedAt(1, 1),
            x.fitAt(0), x.fitAt(5), x.test(), x.guarding(), x.bestOf(0), x.byteAt(0), x.told(0), x.told(1), x.told(2)};
    }

    private void restoresAll() {
        check.promises(39, "They are as kept in place k");
        LeftAnswers x = Check.duchyOf(Check.ANN_TO_DOT);
        x.wed(0, 1);
        x.does(3, 1, 0);
        x.days(1);
        x.does(3, 3, 0);
        x.does(0, 3, 1);
        x.does(1, 2, 2);
        x.bare(2);
        Check.sentence(x, "wed and not to ann");
        int[] before = all(x);
        x.image(1);
        x.days(30);
        Check.duchy(x, SEVEN + "deed h 1 1 1;law 7;cell 8;ideas 9;sees a b;fond a b 1;fond b a 1;");
        Check.sentence(x, "number=6");
        x.does(6, 0, 0);
        check.due("restore(1)", x.restore(1), true);
        check.dueRow("as kept", all(x), before);
        check.due("names, too", Check.book(x, "cid does steal left;dot does sign left;", 0), 1);
        check.due("jailed", x.told(0), 1);
        x.days(30);
        check.due("restore(1)", x.restore(1), true);
        check.dueRow("as kept still", all(x), before);
        x = Check.duchyOf(SEVEN + "fond a g 1;fond g a 2;fond f g 3;fond g f 5;");
        x.image(0);
        Check.sentence(x, "wed");
        x.restore(0);
        check.due("no sentence, too", x.said(-1), -1);
        Check.sentence(x, "number>2 and number<6");
        x.image(0);
        x.duchy();
        Check.sentence(x, "number=0 and number=1");
        Check.sentence(x, "number=1 and number=0");
        x.restore(0);
        check.due("fondness, too", x.best(), 8);
        check.dueRow("the sentence, too", new int[] {x.said(-1), x.said(0), x.said(2)}, 3, 3, 5);
    }

    private static int[] all(LeftAnswers x) {
        int[] row = new int[8 + 32 + 20 + 12 + 6 + 4];
        int n = 0;
        for (int i = 0; i < 8; i++) {
            row[n++] = x.now(i);
        }
        for (int i = 0; i < 32; i++) {
            row[n++] = x.person(i / 8, i % 8);
        }
        for (int i = 0; i < 20; i++) {
            row[n++] = x.deed(i / 5, i % 5);
        }
        for (int i = 0; i < 12; i++) {
            row[n++] = x.skill(i / 3, i % 3);
        }
        for (int i = 0; i < 5; i++) {
            row[n++] = x.count(i);
        }
        row[n++] = x.said(-1);
        row[n++] = x.said(0);
        row[n++] = x.best();
        row[n++] = x.guards();
        row[n] = x.hears(2, 3);
        return row;
    }

    private void counts() {
        check.promises(40, "0 PERSONS, 1 DEEDS, 2 'law', 3 'cell', 4 'ideas', 5 bytes of the tape.");
        LeftAnswers x = Check.duchyOf(SEVEN + "deed h 1 1 1;deed i 1 1 1;law 30;cell 29;ideas 28;");
        Check.feed(x, "x".repeat(940));
        check.dueRow("count", counts(x), 7, 2, 30, 29, 28, 940);
        x.end(0);
        x.duchy();
        check.dueRow("count", counts(x), 0, 0, 10, 3, 5, 0);

        check.promises(40, "NONE for another what");
        check.due("count(6)", x.count(6), -1);
        for (int far : FAR) {
            check.due("count(" + far + ")", x.count(far), -1);
        }
    }

    private static int[] counts(LeftAnswers x) {
        return new int[] {x.count(0), x.count(1), x.count(2), x.count(3), x.count(4), x.count(5)};
    }
}
