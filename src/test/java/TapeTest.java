/** Promises 1 to 3 and 40: a new object, the tape, what is counted. */
public final class TapeTest {
    public static void main(String[] args) {
        Check check = new Check();
        newObject(check);
        feeding(check);
        ending(check);
        counting(check);
        check.close("TapeTest");
    }

    private static void newObject(Check check) {
        LeftAnswers x = new LeftAnswers();
        int[] counts = new int[6];
        for (int i = 0; i < 6; i++) {
            counts[i] = x.count(i);
        }
        check.dueRow("count of a new object", counts, 0, 0, 10, 3, 5, 0);
        check.due("fault()", x.fault(), 0);
        check.due("person(0, 0) throws", Check.throwsNoSuchElement(x, 0, 0), true);
        check.due("undo()", x.undo(), -1);
        check.due("guarding()", x.guarding(), -1);
        check.due("test()", x.test(), -1);
        check.due("told(0)", x.told(0), -1);
        check.due("said(-1)", x.said(-1), -1);
        check.due("drawn(1, 1) without persons", x.drawn(1, 1), -1);
        check.due("NONE", LeftAnswers.NONE, -1);
    }

    private static void feeding(Check check) {
        LeftAnswers x = new LeftAnswers();
        check.due("feed", x.feed(0x70657273, 0x6f6e2061, 0x20312032, 0x3b202020, 0x20202020), 20);
        check.due("the highest byte first", x.duchy(), 1);
        check.due("skill(0, 1)", x.skill(0, 1), 2);
        for (int i = 1; i <= 47; i++) {
            check.due("feed " + i, x.feed(-1, -1, -1, -1, -1), 20 * i);
        }
        check.due("feed beyond 940", x.feed(0, 0, 0, 0, 0), -1);
        check.due("none came", x.count(5), 940);
        x.end(921);
        check.due("feed at 921", x.feed(0, 0, 0, 0, 0), -1);
        x.end(920);
        check.due("feed at 920", x.feed(0, 0, 0, 0, 0), 940);
    }

    private static void ending(Check check) {
        LeftAnswers x = new LeftAnswers();
        check.due("end(0) of none", x.end(0), true);
        check.due("end(1) of none", x.end(1), false);
        x.feed(1, 2, 3, 4, 5);
        check.due("end(21)", x.end(21), false);
        check.due("end(-1)", x.end(-1), false);
        check.due("it stays", x.count(5), 20);
        check.due("end(20)", x.end(20), true);
        check.due("end(7)", x.end(7), true);
        check.due("seven are left", x.count(5), 7);
        check.due("end(8)", x.end(8), false);
        check.due("feed behind seven", x.feed(0, 0, 0, 0, 0), 27);
        check.due("end(min)", x.end(Integer.MIN_VALUE), false);
        check.due("end(max)", x.end(Integer.MAX_VALUE), false);
    }

    private static void counting(Check check) {
        LeftAnswers x = Check.duchyOf(Check.ANN_TO_DOT);
        Check.feed(x, "abc");
        int[] counts = new int[6];
        for (int i = 0; i < 6; i++) {
            counts[i] = x.count(i);
        }
        check.dueRow("count", counts, 4, 4, 5, 2, 1, 3);
        check.due("count(-1)", x.count(-1), -1);
        check.due("count(6)", x.count(6), -1);
    }
}
