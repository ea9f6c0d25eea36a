/** Promises 18 to 31: what can be asked, and slips. */
public final class QuestionsTest {
    public static void main(String[] args) {
        Check check = new Check();
        parting(check);
        partingEdges(check);
        fitting(check);
        hearing(check);
        guarding(check);
        pairing(check);
        earning(check);
        richest(check);
        slips(check);
        check.close("QuestionsTest");
    }

    private static int[] places(LeftAnswers x, int n) {
        int[] row = new int[2 * n];
        for (int k = 0; k < n; k++) {
            row[2 * k] = x.partedAt(k, 0);
            row[2 * k + 1] = x.partedAt(k, 1);
        }
        return row;
    }

    private static void parting(Check check) {
        LeftAnswers x = Check.duchyOf("person a 5 5;person b 5 5;deed d 4 1 1;deed e 10 1 1 both;deed f 9 1 0;"
                + "sees a b;");
        check.due("d d d d", Check.parted(x, 0, 0, 0, 0), 3);
        check.dueRow("d d d d", places(x, 5), 0, 0, 0, 1, 1, 1, -1, -1, -1, -1);
        check.due("d e", Check.parted(x, 0, 1), 2);
        check.dueRow("d e: the least hand would bar two", places(x, 2), 1, 1, 0, 2);
        check.due("f e", Check.parted(x, 2, 1), 1);
        check.dueRow("f e", places(x, 2), -1, -1, 0, 2);
        check.due("e e", Check.parted(x, 1, 1), 1);
        check.dueRow("e e", places(x, 2), 0, 2, -1, -1);
        check.due("d d e", Check.parted(x, 0, 0, 1), 2);
        check.dueRow("d d e", places(x, 3), 0, 0, 0, 1, -1, -1);
        x.does(0, 0, 0);
        check.due("d d e, a's right is busy", Check.parted(x, 0, 0, 1), 2);
        check.dueRow("d d e", places(x, 3), 0, 1, 1, 1, -1, -1);
        check.due("f", Check.parted(x, 2), 0);
        check.dueRow("f", places(x, 2), -1, -1, -1, -1);
    }

    private static void partingEdges(Check check) {
        LeftAnswers x = Check.duchyOf(Check.ANN_TO_DOT);
        check.due("none", Check.parted(x), -1);
        check.due("ahead of any", x.partedAt(0, 0), -1);
        check.due("five", Check.parted(x, 0, 0, 0, 0, 0), -1);
        check.due("the tape is empty", x.count(5), 0);
        check.due("no such deed", Check.parted(x, 0, 4), -1);
        check.due("255", Check.parted(x, 255), -1);
        check.due("0", Check.parted(x, 0), 1);
        check.due("NONE leaves it", Check.parted(x, 9), -1);
        check.due("partedAt(0, 0)", x.partedAt(0, 0), 0);
        check.due("partedAt(0, 1)", x.partedAt(0, 1), 0);
        check.due("partedAt(0, 2)", x.partedAt(0, 2), -1);
        check.due("partedAt(0, -1)", x.partedAt(0, -1), -1);
        check.due("partedAt(-1, 0)", x.partedAt(-1, 0), -1);
        check.due("partedAt(1, 0)", x.partedAt(1, 0), -1);
        x.days(1);
        x.glove(0);
        check.due("as it was", x.partedAt(0, 0), 0);
    }

    private static void fitting(Check check) {
        LeftAnswers x = Check.duchyOf(Check.ANN_TO_DOT);
        check.due("none", Check.fits(x), -1);
        check.due("odd", Check.fits(x, 0), -1);
        check.due("odd", Check.fits(x, 0, 1, 1), -1);
        check.due("seven", Check.fits(x, 0, 1, 0, 1, 0, 1, 0, 1, 0, 1, 0, 1, 0, 1), -1);
        check.due("no such deed", Check.fits(x, 4, 1), -1);
        check.due("no such outcome", Check.fits(x, 0, 2), -1);
        check.due("the tape is empty", x.count(5), 0);
        check.due("ahead of any", x.test(), -1);
        check.due("six", Check.fits(x, 3, 1, 3, 1, 3, 1, 3, 1, 3, 1, 3, 1), 6);
        int[] row = new int[8];
        for (int k = -1; k < 7; k++) {
            row[k + 1] = x.fitAt(k);
        }
        check.dueRow("those who kiss", row, -1, 0, 1, 3, 4, 7, 9, -1);
        check.due("steal parts them", x.test(), 1);
        Check.duchy(x, "person z 1 1;deed y 9 1 1;deed w 1 1 1 both;");
        check.due("as it was then", x.test(), 1);
        check.due("as it was then", x.fitAt(5), 9);
        check.due("none fits", Check.fits(x, 0, 1), 0);
        check.due("still", x.test(), 1);
        check.due("all fit", Check.fits(x, 0, 0), 3);
        check.due("two", x.fitAt(2), 2);
        check.due("the second", x.test(), 1);
        check.due("contradicting", Check.fits(x, 1, 0, 1, 1), 0);
        LeftAnswers none = Check.duchyOf("person z 1 1;");
        check.due("no deeds", Check.fits(none, 0, 0), -1);
        LeftAnswers busy = Check.duchyOf("person z 5 5 gloved;deed y 5 1 1;");
        busy.does(0, 0, 0);
        check.due("gloved and busy no matter", Check.fits(busy, 0, 1), 2);
    }

    private static void hearing(Check check) {
        LeftAnswers x = Check.duchyOf("person a 1 1;person b 1 1;person c 1 1;person d 1 1;person e 1 1;"
                + "sees a b;sees b c;sees c d;sees a c;sees d a;");
        check.due("a of a", x.hears(0, 0), 0);
        check.due("a of b", x.hears(0, 1), 1);
        check.due("a of c", x.hears(0, 2), 1);
        check.due("a of d", x.hears(0, 3), 2);
        check.due("b of a", x.hears(1, 0), 3);
        check.due("a of e", x.hears(0, 4), -1);
        check.due("e of a", x.hears(4, 0), -1);
        check.due("e of e", x.hears(4, 4), 0);
        check.due("no such one", x.hears(5, 0), -1);
        check.due("no such one", x.hears(0, -1), -1);
        check.due("no such ones", x.hears(5, 5), -1);
        StringBuilder text = new StringBuilder();
        for (char c = 'a'; c <= 'g'; c++) {
            text.append("person ").append(c).append(" 1 1;");
        }
        for (char c = 'a'; c < 'g'; c++) {
            text.append("sees ").append(c).append(' ').append((char) (c + 1)).append(';');
        }
        check.due("six watchers", Check.duchyOf(text.toString()).hears(0, 6), 6);
    }

    private static void guarding(Check check) {
        String four = "person a 1 1;person b 1 1;person c 1 1;person d 1 1;";
        LeftAnswers x = Check.duchyOf(four);
        check.due("nobody watches", x.guards(), 4);
        check.due("all", x.guarding(), 15);
        Check.duchy(x, four + "sees d a;sees d b;sees d c;");
        check.due("by the latest guards()", x.guarding(), 15);
        check.due("one sees all", x.guards(), 1);
        check.due("d", x.guarding(), 8);
        Check.duchy(x, four + "sees a b;sees b a;sees c d;sees d c;");
        check.due("two", x.guards(), 2);
        check.due("the least as bits", x.guarding(), 5);
        x.duchy();
        check.due("none", x.guards(), 0);
        check.due("none", x.guarding(), 0);
    }

    private static int[] partners(LeftAnswers x, int n) {
        int[] row = new int[n];
        for (int p = 0; p < n; p++) {
            row[p] = x.bestOf(p);
        }
        return row;
    }

    private static void pairing(Check check) {
        String four = "person a 1 1;person b 1 1;person c 1 1;person d 1 1;deed e 1 1 9;";
        LeftAnswers x = Check.duchyOf(four + "fond a b 5;fond b a 5;fond b c 9;fond c b 9;fond c d 5;fond d c 5;");
        check.due("ahead of any", x.bestOf(0), -1);
        check.due("best", x.best(), 20);
        check.dueRow("partners", partners(x, 5), 1, 0, 3, 2, -1);
        check.due("no such one", x.bestOf(-1), -1);
        x.glove(0);
        check.due("by the latest", x.bestOf(0), 1);
        check.due("best, a gloved", x.best(), 18);
        check.dueRow("partners", partners(x, 4), -1, 2, 1, -1);
        x.wed(2, 3);
        check.due("best, c and d wed", x.best(), 0);
        check.dueRow("partners", partners(x, 4), -1, -1, -1, -1);
        x = Check.duchyOf(four + "fond a b 9;fond b c 1;fond c b 1;");
        check.due("one way is none", x.best(), 2);
        x = Check.duchyOf(four + "fond a b 1;fond b a 1;fond a c 1;fond c a 1;fond a d 1;fond d a 1;");
        check.due("of like ones the first", x.best(), 2);
        check.dueRow("partners", partners(x, 4), 1, 0, -1, -1);
        x = Check.duchyOf(four + "fond a d 1;fond d a 1;fond b c 1;fond c b 1;fond a c 1;fond c a 1;"
                + "fond b d 1;fond d b 1;");
        check.due("of like ones the first", x.best(), 4);
        check.dueRow("partners", partners(x, 4), 2, 3, 0, 1);
        x = Check.duchyOf(four + "fond a d 1;fond d a 1;sees b a;law 1;");
        x.does(0, 0, 0);
        check.due("jailed", x.best(), 0);
        Check.duchy(x, four + "fond a d 1;fond d a 1;");
        x.best();
        Check.duchy(x, "person a 1 1;");
        check.due("a is there", x.bestOf(0), 3);
        check.due("no such one now", x.bestOf(3), -1);
    }

    private static void earning(Check check) {
        LeftAnswers x = Check.duchyOf(Check.ANN_TO_DOT);
        check.due("ann", x.earns(0), 8);
        check.due("bob", x.earns(1), 15);
        check.due("cid, gloved", x.earns(2), 0);
        check.due("dot", x.earns(3), 6);
        check.due("no such one", x.earns(4), -1);
        check.due("no such one", x.earns(-1), -1);
        x.does(1, 2, 2);
        check.due("if his hands had done nothing", x.earns(1), 15);
        x.bare(2);
        check.due("cid, bare", x.earns(2), 9);
        x.does(3, 1, 0);
        x.days(1);
        x.does(3, 3, 0);
        check.due("if he was not jailed", x.earns(3), 6);
        x = Check.duchyOf("person a 5 5;person b 5 5;deed d 4 7 1;deed e 10 20 0 both;deed f 10 30 1 both;sees b a;");
        check.due("seen", x.earns(0), 20);
        check.due("unseen", x.earns(1), 30);
        x = Check.duchyOf("person a 5 5;deed d 4 7 1;deed e 10 13 0 both;");
        check.due("the same deed twice", x.earns(0), 14);
        x.glove(0);
        check.due("gloved", x.earns(0), 7);
        check.due("no deeds", Check.duchyOf("person a 5 5;").earns(0), 0);
    }

    private static void richest(Check check) {
        LeftAnswers x = Check.duchyOf("person a 5 5;person b 5 5;person c 5 5;deed d 4 7 1;");
        check.due("of like ones the first", x.richest(), 0);
        x.does(2, 0, 0);
        check.due("c", x.richest(), 2);
        x.does(1, 0, 0);
        check.due("b", x.richest(), 1);
        x.duchy();
        check.due("none", x.richest(), -1);
    }

    private static void slip(Check check, LeftAnswers x, int p, String want) {
        String got = Check.slip(x, p);
        if (!got.equals(want)) {
            System.out.println("slip is '" + got + "', due is '" + want + "'");
        }
        check.due("slip " + want, got.equals(want), true);
    }

    private static void slips(Check check) {
        LeftAnswers x = Check.duchyOf("person abcdefg 5 5;person z 5 5;person q 1 1 gloved;deed d 1 30 9;"
                + "sees z abcdefg;law 9;cell 12;");
        check.due("ahead of any", x.byteAt(0), -1);
        slip(check, x, 0, "abcdefg owns 0");
        slip(check, x, 2, "q owns 0 gloved");
        x.wed(0, 1);
        slip(check, x, 1, "z owns 0 wed to abcdefg");
        x.does(0, 0, 1);
        slip(check, x, 0, "abcdefg owns 30 wed to z");
        x.does(0, 0, 0);
        slip(check, x, 0, "abcdefg owns 60 in cell 12 wed to z");
        check.due("length", x.slip(0), 35);
        x.part(0);
        x.glove(0);
        check.due("the latest stays", x.byteAt(34), 'z');
        check.due("none such", x.byteAt(35), -1);
        check.due("none such", x.byteAt(-1), -1);
        check.due("no such one", x.slip(3), -1);
        check.due("no such one", x.slip(-1), -1);
        check.due("the latest stays", x.byteAt(0), 'a');
        x.days(3);
        slip(check, x, 0, "abcdefg owns 60 in cell 9 gloved");
        x.bare(0);
        for (int i = 0; i < 2; i++) {
            x.days(20);
            x.does(0, 0, 1);
            x.does(0, 0, 0);
        }
        slip(check, x, 0, "abcdefg owns 180 in cell 12");
        check.due("behind its end", x.byteAt(27), -1);
    }
}
