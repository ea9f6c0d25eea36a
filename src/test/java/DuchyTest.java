/** Promises 4 and 5, 7 and 8: the text of a DUCHY, its FAULTS, and what it told. */
public final class DuchyTest {
    private static final String TWO = "person ann 1 2;person bob 3 4;deed dig 5 6 7;";

    public static void main(String[] args) {
        Check check = new Check();
        goodTexts(check);
        tokens(check);
        ends(check);
        numbers(check);
        names(check);
        tooMany(check);
        tooLong(check);
        staying(check);
        newOne(check);
        check.close("DuchyTest");
    }

    private static void fault(Check check, String text, int kind, int place) {
        LeftAnswers x = new LeftAnswers();
        check.due("duchy of: " + text, Check.duchy(x, text), -1 - place);
        check.due("fault of: " + text, x.fault(), kind);
        check.due("the tape is empty behind: " + text, x.count(5), 0);
    }

    private static void good(Check check, String text, int lines) {
        LeftAnswers x = new LeftAnswers();
        check.due("duchy of: " + text, Check.duchy(x, text), lines);
        check.due("fault of: " + text, x.fault(), 0);
        check.due("the tape is empty behind: " + text, x.count(5), 0);
    }

    private static void goodTexts(Check check) {
        good(check, "", 0);
        good(check, " \n ", 0);
        good(check, "law 30;cell 30;ideas 30;", 3);
        good(check, "law\n1 ;\ncell 01 ; ideas 001;", 3);
        good(check, Check.ANN_TO_DOT, 20);
        good(check, TWO + "sees ann bob;sees bob ann;fond ann bob 1;fond bob ann 9;", 7);
        LeftAnswers x = Check.duchyOf("deed a 18 30 9 both;person b 9 1;deed c 1 0 0;person d 2 7 gloved;");
        int[] deeds = new int[10];
        for (int i = 0; i < 10; i++) {
            deeds[i] = x.deed(i / 5, i % 5);
        }
        check.dueRow("deeds", deeds, 18, 30, 9, 1, 0, 1, 0, 0, 0, 0);
        check.due("deed(0, 5)", x.deed(0, 5), -1);
        check.due("deed(0, -1)", x.deed(0, -1), -1);
        check.due("deed(2, 0)", x.deed(2, 0), -1);
        check.due("deed(-1, 0)", x.deed(-1, 0), -1);
        int[] skills = new int[6];
        for (int i = 0; i < 6; i++) {
            skills[i] = x.skill(i / 3, i % 3);
        }
        check.dueRow("skills", skills, 9, 1, 10, 2, 7, 9);
        check.due("skill(2, 0)", x.skill(2, 0), -1);
        check.due("skill(-1, 0)", x.skill(-1, 0), -1);
        check.due("skill(0, 3)", x.skill(0, 3), -1);
        check.due("skill(0, -1)", x.skill(0, -1), -1);
        check.due("gloved", x.now(2), 2);
    }

    private static void tokens(Check check) {
        fault(check, ";", 1, 0);
        fault(check, "law", 1, 3);
        fault(check, "law;", 1, 3);
        fault(check, "law 5", 1, 5);
        fault(check, "law 5 ", 1, 6);
        fault(check, "law 5,", 1, 5);
        fault(check, "Law 5;", 1, 0);
        fault(check, "law5;", 1, 0);
        fault(check, "law 5a;", 1, 4);
        fault(check, "law 0005;", 1, 4);
        fault(check, "law 5.;", 1, 5);
        fault(check, "law\t5;", 1, 3);
        fault(check, "law five;", 1, 4);
        fault(check, "person abcdefgh 1 2;", 1, 7);
        good(check, "person abcdefg 1 2;", 1);
        fault(check, "person ann 1 2 both;", 1, 15);
        fault(check, "person ann 1 2 gloved gloved;", 1, 22);
        fault(check, "person ann 1 gloved;", 1, 13);
        fault(check, "deed dig 1 2 3 gloved;", 1, 15);
        fault(check, "person ann 1 2;;", 1, 15);
        fault(check, "ann 1 2;", 1, 0);
        fault(check, "does 1;", 1, 0);
        fault(check, "person 5 1 2;", 1, 7);
        fault(check, "law 5;" + (char) 0, 1, 6);
        fault(check, "law 5;" + (char) 200, 1, 6);
        for (String word : new String[] {"person", "gloved", "deed", "both", "sees", "fond", "law", "cell",
            "ideas", "does", "weds", "parts", "gloves", "bares", "day", "right", "left", "two", "or", "and",
            "not", "jailed", "wed", "busy", "seen", "to", "owns", "blame", "idea", "number"}) {
            fault(check, "person " + word + " 1 2;", 1, 7);
            fault(check, "deed " + word + " 1 2 3;", 1, 5);
            fault(check, TWO + "sees ann " + word + ";", 1, TWO.length() + 9);
        }
        good(check, "person words 1 2;deed hand 1 2 3;deed days 1 2 3;", 3);
    }

    private static void ends(Check check) {
        for (String text : new String[] {"person", "person ann", "person ann 1", "person ann 1 2",
            "person ann 1 2 gloved", "deed", "deed dig", "deed dig 1", "deed dig 1 2", "deed dig 1 2 3",
            "deed dig 1 2 3 both", "cell", "ideas 5", TWO + "sees", TWO + "sees ann", TWO + "sees ann bob",
            TWO + "fond ann bob", TWO + "fond ann bob 3"}) {
            fault(check, text, 1, text.length());
            fault(check, text + "  ", 1, text.length() + 2);
        }
    }

    private static void numbers(Check check) {
        fault(check, "law 0;", 2, 4);
        fault(check, "law 31;", 2, 4);
        fault(check, "cell 0;", 2, 5);
        fault(check, "cell 31;", 2, 5);
        fault(check, "ideas 0;", 2, 6);
        fault(check, "ideas 999;", 2, 6);
        fault(check, "person ann 0 5;", 2, 11);
        fault(check, "person ann 10 5;", 2, 11);
        fault(check, "person ann 5 0;", 2, 13);
        fault(check, "person ann 5 10;", 2, 13);
        fault(check, "deed dig 0 5 5;", 2, 9);
        fault(check, "deed dig 19 5 5;", 2, 9);
        fault(check, "deed dig 1 31 5;", 2, 11);
        fault(check, "deed dig 1 5 10;", 2, 13);
        fault(check, TWO + "fond ann bob 0;", 2, TWO.length() + 13);
        fault(check, TWO + "fond ann bob 10;", 2, TWO.length() + 13);
    }

    private static void names(Check check) {
        int at = TWO.length();
        fault(check, TWO + "person ann 1 2;", 3, at + 7);
        fault(check, TWO + "person dig 1 2;", 3, at + 7);
        fault(check, TWO + "deed ann 1 2 3;", 3, at + 5);
        fault(check, TWO + "deed dig 1 2 3;", 3, at + 5);
        fault(check, TWO + "sees cid ann;", 3, at + 5);
        fault(check, TWO + "sees dig ann;", 3, at + 5);
        fault(check, TWO + "sees ann dig;", 3, at + 9);
        fault(check, TWO + "sees ann ann;", 3, at + 9);
        fault(check, TWO + "sees ann bob;sees ann bob;", 3, at + 22);
        fault(check, TWO + "fond ann ann 3;", 3, at + 9);
        fault(check, TWO + "fond ann bob 3;fond ann bob 4;", 3, at + 24);
        fault(check, TWO + "fond ann cid 3;", 3, at + 9);
        fault(check, "law 5;law 5;", 3, 6);
        fault(check, "cell 5;law 1;cell 5;", 3, 13);
        fault(check, "ideas 5;ideas 5;", 3, 8);
        fault(check, "sees ann bob;person ann 1 2;", 3, 5);
    }

    private static void tooMany(Check check) {
        StringBuilder text = new StringBuilder();
        for (char c = 'a'; c <= 'g'; c++) {
            text.append("person ").append(c).append(" 1 2;");
        }
        good(check, text.toString(), 7);
        fault(check, text + "person a 1 2;", 4, text.length());
        fault(check, text + " person", 4, text.length() + 1);
        for (char c = 'h'; c <= 'o'; c++) {
            text.append("deed ").append(c).append(" 1 2 3;");
        }
        good(check, text.toString(), 15);
        fault(check, text + "deed p 1 2 3;", 4, text.length());
        fault(check, text + "person p 1 2;", 4, text.length());
    }

    private static void tooLong(Check check) {
        good(check, "law 5;" + " ".repeat(894), 1);
        fault(check, "law 5;" + " ".repeat(895), 1, 900);
        good(check, " ".repeat(894) + "law 5;", 1);
        fault(check, " ".repeat(895) + "law 5;", 1, 900);
        fault(check, " ".repeat(898) + "law 5;", 1, 900);
        fault(check, " ".repeat(899) + "lawlawlaw 5;", 1, 899);
        fault(check, "law 5;" + " ".repeat(892) + "law 5;", 3, 898);
        fault(check, "law 5;cell" + " ".repeat(889) + "31;", 2, 899);
        fault(check, "law 5;cell" + " ".repeat(889) + "30;", 1, 900);
        fault(check, "law 5;" + " ".repeat(894) + "!", 1, 900);
        fault(check, "law 5;" + " ".repeat(893) + "!!", 1, 899);
        fault(check, "law" + " ".repeat(897), 1, 900);
        fault(check, "law" + " ".repeat(937), 1, 900);
    }

    private static void staying(Check check) {
        LeftAnswers x = Check.duchyOf(Check.ANN_TO_DOT);
        x.does(0, 0, 0);
        check.due("duchy with a fault", Check.duchy(x, "law 5;law 6;"), -7);
        check.due("fault()", x.fault(), 3);
        check.due("the old one stays", x.count(0), 4);
        check.due("coins stay", x.now(5), 6);
        check.due("undo() is still there", x.undo(), 0);
    }

    private static void newOne(Check check) {
        LeftAnswers x = Check.duchyOf(Check.ANN_TO_DOT);
        x.does(3, 1, 0);
        x.does(1, 1, 1);
        x.wed(0, 1);
        x.days(3);
        x.does(3, 1, 0);
        Check.sentence(x, "wed");
        check.due("the same again", Check.duchy(x, Check.ANN_TO_DOT), 20);
        int[] now = new int[8];
        for (int i = 0; i < 8; i++) {
            now[i] = x.now(i);
        }
        check.dueRow("now", now, 0, 0, 4, 0, 11, 0, 0, 0);
        for (int p = 0; p < 4; p++) {
            for (int what = 0; what < 4; what++) {
                check.due("person(" + p + ", " + what + ")", x.person(p, what), 0);
            }
            check.due("person(" + p + ", 4)", x.person(p, 4), -1);
            check.due("person(" + p + ", 6)", x.person(p, 6), 0);
        }
        check.due("deed(1, 4)", x.deed(1, 4), 0);
        check.due("no sentence", x.said(-1), -1);
        check.due("nothing to undo", x.undo(), -1);
        check.due("an empty duchy", x.duchy(), 0);
        check.due("no persons", x.count(0), 0);
        check.due("law as without", x.count(2), 10);
    }
}
