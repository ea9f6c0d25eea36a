/** "Terms" as far as ==== 2.: each sentence on texts and their FAULTS that names an edge, by itself. */
public final class TextEdgesTest {
    private static final String FEW = "person ann 5 3;person bob 4 6;deed sign 4 6 0;deed dig 9 5 0 both;";
    private static final String SEVEN = "person a 1 1;person b 1 1;person c 1 1;person d 1 1;person e 1 1;"
            + "person f 1 1;person g 1 1;";
    private static final String EIGHT = "deed h 1 1 1;deed i 1 1 1;deed j 1 1 1;deed k 1 1 1;deed l 1 1 1;"
            + "deed m 1 1 1;deed n 1 1 1;deed o 1 1 1;";
    private static final String[] WORDS = {"person", "gloved", "deed", "both", "sees", "fond", "law", "cell", "ideas",
        "does", "weds", "parts", "gloves", "bares", "day", "right", "left", "two", "or", "and", "not", "jailed", "wed",
        "busy", "seen", "to", "owns", "blame", "idea", "number"};

    private final Check check = new Check();

    public static void main(String[] args) {
        TextEdgesTest test = new TextEdgesTest();
        test.tokens();
        test.duchies();
        test.namesAndNumbersOfThem();
        test.books();
        test.sentences();
        test.faultsInOrder();
        test.faultsOfTokens();
        test.faultsOfLength();
        test.faultsOfNames();
        test.faultsOfTooMany();
        test.check.close("TextEdgesTest");
    }

    private LeftAnswers duchy(String text, int lines) {
        LeftAnswers x = new LeftAnswers();
        check.due("duchy of: " + text, Check.duchy(x, text), lines);
        check.due("fault() of: " + text, x.fault(), 0);
        return x;
    }

    private void duchyFault(String text, int kind, int place) {
        LeftAnswers x = new LeftAnswers();
        check.due("duchy of: " + text, Check.duchy(x, text), -1 - place);
        check.due("fault() of: " + text, x.fault(), kind);
    }

    private LeftAnswers book(String text, int lines) {
        LeftAnswers x = Check.duchyOf(FEW);
        check.due("book of: " + text, Check.book(x, text, 0), -1);
        check.due("fault() of: " + text, x.fault(), 0);
        check.due("lines of: " + text, x.told(1), lines);
        return x;
    }

    private void bookFault(String text, int kind, int place) {
        LeftAnswers x = Check.duchyOf(FEW);
        check.due("book of: " + text, Check.book(x, text, 0), -2 - place);
        check.due("fault() of: " + text, x.fault(), kind);
    }

    private LeftAnswers sentence(String text, int ones) {
        LeftAnswers x = Check.duchyOf(FEW);
        check.due("sentence of: " + text, Check.sentence(x, text), ones);
        check.due("fault() of: " + text, x.fault(), 0);
        return x;
    }

    private void sentenceFault(String text, int kind, int place) {
        LeftAnswers x = Check.duchyOf(FEW);
        check.due("sentence of: " + text, Check.sentence(x, text), -1 - place);
        check.due("fault() of: " + text, x.fault(), kind);
    }

    private static boolean goesOn(int sign) {
        return sign >= 'a' && sign <= 'z' || sign >= '0' && sign <= '9';
    }

    private static String blanks(int n) {
        return " ".repeat(n);
    }

    private void tokens() {
        check.says("with blanks (32, 10) between them or not");
        duchy("law 5;cell 3;", 2);
        duchy("\n law\n\n5 \n;\ncell 3 ; ", 2);
        sentence("not(wed)or(busy)and owns<5", 6);
        sentence(" not\n( wed )\nor ( busy ) and owns < 5\n", 6);
        for (int sign = 0; sign < 256; sign++) {
            if (sign != 32 && sign != 10) {
                duchyFault("law" + (char) sign + "5;", 1, goesOn(sign) ? 0 : 3);
            }
        }

        check.says("WORDS: small letters, 1 to 7");
        for (char letter = 'a'; letter <= 'z'; letter++) {
            duchy("person " + letter + " 1 1;", 1);
        }
        duchy("person abcdefg 1 1;person tuvwxyz 1 1;", 2);
        duchyFault("person abcdefgh 1 1;", 1, 7);
        duchyFault("person " + "a".repeat(13) + " 1 1;", 1, 7);
        for (char letter : new char[] {'A', 'Z', '`', '{', '_', '@', (char) 225}) {
            duchyFault("person " + letter + " 1 1;", 1, 7);
            duchyFault("person ab" + letter + " 1 1;", 1, 9);
        }

        check.says("NUMBERS: 1 to 3 digits");
        for (int digit = 0; digit <= 9; digit++) {
            check.due("one", duchy("deed d 1 " + digit + " 0;", 1).deed(0, 1), digit);
            check.due("two", duchy("deed d 1 0" + digit + " 0;", 1).deed(0, 1), digit);
            check.due("three", duchy("deed d 1 00" + digit + " 0;", 1).deed(0, 1), digit);
        }
        duchyFault("deed d 1 0005 0;", 1, 9);
        duchyFault("deed d 1 1000 0;", 1, 9);
        duchyFault("deed d 1 4294967297 0;", 1, 9);
        duchyFault("deed d 1 / 0;", 1, 9);
        duchyFault("deed d 1 : 0;", 1, 9);
        duchyFault("deed d 1 -1 0;", 1, 9);

        check.says("; < = > ( )");
        sentence("(owns<1 or owns=1)and owns>1", 4);
        for (int sign = 0; sign < 256; sign++) {
            boolean isBlank = sign == 32 || sign == 10;
            sentenceFault("" + (char) sign, 1, isBlank || sign == '(' ? 1 : 0);
            if (!isBlank && !goesOn(sign) && sign != '<' && sign != '=' && sign != '>') {
                sentenceFault("owns" + (char) sign + "1", 1, 4);
            }
        }

        check.says("A WORD, NUMBER goes on as long as small letters and digits do; what is not as told is no TOKEN.");
        duchyFault("law5;", 1, 0);
        duchyFault("law 5x;", 1, 4);
        duchyFault("law x5;", 1, 4);
        duchyFault("person a1 1 2;", 1, 7);
        duchyFault("person ann 1 2gloved;", 1, 13);
        duchyFault("deed dig 1 2 3both;", 1, 13);
        sentenceFault("owns<5or wed", 1, 5);
        sentenceFault("owns5", 1, 0);
        bookFault("day5;", 1, 0);
    }

    private void duchies() {
        check.says("A DUCHY is a text of at most 900 bytes: { LINE ; }");
        duchy("", 0);
        duchy(blanks(900), 0);
        duchy("law 5;" + blanks(894), 1);
        duchy(blanks(894) + "law 5;", 1);
        duchyFault(blanks(901), 1, 900);
        duchyFault("law 5;" + blanks(895), 1, 900);
        duchyFault(blanks(895) + "law 5;", 1, 900);
        duchyFault("law 5", 1, 5);
        duchyFault(";", 1, 0);
        duchyFault("law 5;;", 1, 6);

        check.says("'person' NAME RIGHT LEFT [ 'gloved' ] (skills: 1 to 9 each)");
        for (int skill = 0; skill <= 10; skill++) {
            if (skill == 0 || skill == 10) {
                duchyFault("person ann " + skill + " 5;", 2, 11);
                duchyFault("person ann 5 " + skill + ";", 2, 13);
            } else {
                check.due("right", duchy("person ann " + skill + " 5;", 1).skill(0, 0), skill);
                check.due("left", duchy("person ann 5 " + skill + ";", 1).skill(0, 1), skill);
            }
        }
        check.due("gloved", duchy("person ann 1 2 gloved;", 1).now(2), 1);
        check.due("not gloved", duchy("person ann 1 2;", 1).now(2), 0);
        duchyFault("person ann 1 2 both;", 1, 15);
        duchyFault("person ann 1 2 gloved gloved;", 1, 22);
        duchyFault("person ann 1;", 1, 12);
        duchyFault("person ann 1 2 3;", 1, 15);

        check.says("'deed' NAME HARD PAY BLAME [ 'both' ] (1 to 18; 0 to 30; 0 to 9)");
        LeftAnswers x = duchy("deed a 1 0 0;deed b 18 30 9 both;", 2);
        check.dueRow("least and most", new int[] {x.deed(0, 0), x.deed(0, 1), x.deed(0, 2), x.deed(0, 3),
            x.deed(1, 0), x.deed(1, 1), x.deed(1, 2), x.deed(1, 3)}, 1, 0, 0, 0, 18, 30, 9, 1);
        duchyFault("deed a 0 5 5;", 2, 7);
        duchyFault("deed a 19 5 5;", 2, 7);
        duchyFault("deed a 5 31 5;", 2, 9);
        duchyFault("deed a 5 5 10;", 2, 11);
        duchyFault("deed a 5 5 5 gloved;", 1, 13);
        duchyFault("deed a 5 5 5 both both;", 1, 18);
        duchyFault("deed a 5 5;", 1, 10);
        duchyFault("deed a 5 5 5 5;", 1, 13);
    }

    private void namesAndNumbersOfThem() {
        int at = FEW.length();
        check.says("'sees' PERSON PERSON (the first one watches the second; unlike; each two once, as told)");
        LeftAnswers x = duchy(FEW + "sees ann bob;", 5);
        check.due("ann hears of bob", x.hears(0, 1), 1);
        check.due("bob hears nothing of ann", x.hears(1, 0), -1);
        check.due("bob is seen", x.now(4), 2);
        check.due("the other way is another two", duchy(FEW + "sees ann bob;sees bob ann;", 6).now(4), 3);
        duchyFault(FEW + "sees ann ann;", 3, at + 9);
        duchyFault(FEW + "sees ann bob;sees ann bob;", 3, at + 22);
        duchyFault(FEW + "sees ann bob;sees bob ann;sees bob ann;", 3, at + 35);

        check.says("unlike; each two once, as told; 1 to 9; 0 without");
        check.due("the least", duchy(FEW + "fond ann bob 1;fond bob ann 1;", 6).best(), 2);
        check.due("the most", duchy(FEW + "fond ann bob 9;fond bob ann 9;", 6).best(), 18);
        check.due("without", duchy(FEW + "fond ann bob 9;", 5).best(), 0);
        duchyFault(FEW + "fond ann bob 0;", 2, at + 13);
        duchyFault(FEW + "fond ann bob 10;", 2, at + 13);
        duchyFault(FEW + "fond bob bob 5;", 3, at + 9);
        duchyFault(FEW + "fond ann bob 5;fond ann bob 5;", 3, at + 24);
        duchyFault(FEW + "fond ann bob;", 1, at + 12);

        once("'law' N (1 to 30; once; 10 without)", "law", 2, 10);
        once("'cell' N (1 to 30; once; 3 without)", "cell", 3, 3);
        once("'ideas' N (1 to 30; once; 5 without)", "ideas", 4, 5);

        check.says("NAME: a WORD, none of those told here, in a BOOK or a SENTENCE; told once.");
        for (String word : WORDS) {
            duchyFault("person " + word + " 1 2;", 1, 7);
            duchyFault("deed " + word + " 1 2 3;", 1, 5);
            duchy("person x" + word.substring(1) + " 1 2;", 1);
        }
        duchyFault(FEW + "person bob 1 2;", 3, at + 7);
        duchyFault(FEW + "deed bob 1 2 3;", 3, at + 5);
        duchyFault(FEW + "person dig 1 2;", 3, at + 7);
        duchyFault(FEW + "deed dig 1 2 3;", 3, at + 5);

        check.says("7 PERSONS, 8 DEEDS at most, numbered from 0 each.");
        x = duchy(EIGHT + SEVEN, 15);
        check.due("persons", x.count(0), 7);
        check.due("deeds", x.count(1), 8);
        check.due("the last person", x.skill(6, 0), 1);
        check.due("no person behind it", x.skill(7, 0), -1);
        check.due("the last deed", x.deed(7, 0), 1);
        check.due("no deed behind it", x.deed(8, 0), -1);
        duchyFault(SEVEN + EIGHT + "person p 1 1;", 4, SEVEN.length() + EIGHT.length());
        duchyFault(SEVEN + EIGHT + "deed p 1 1 1;", 4, SEVEN.length() + EIGHT.length());
    }

    private void once(String quote, String word, int what, int without) {
        int at = word.length() + 1;
        check.says(quote);
        check.due("without", duchy("person a 1 1;", 1).count(what), without);
        check.due("the least", duchy(word + " 1;", 1).count(what), 1);
        check.due("the most", duchy(word + " 30;", 1).count(what), 30);
        duchyFault(word + " 0;", 2, at);
        duchyFault(word + " 31;", 2, at);
        duchyFault(word + " 7;" + word + " 7;", 3, at + 2);
        duchyFault(word + " " + without + ";" + word + " 7;", 3, (word + " " + without + ";").length());
    }

    private void books() {
        check.says("A BOOK is a text of at most 400 bytes: { LINE ; }, 40 at most");
        book("", 0);
        book(blanks(400), 0);
        book("day 1;" + blanks(394), 1);
        book(blanks(394) + "day 1;", 1);
        book("day 1;".repeat(40), 40);
        bookFault(blanks(401), 1, 400);
        bookFault("day 1;" + blanks(395), 1, 400);
        bookFault("day 1;".repeat(41), 4, 240);
        bookFault("day 1", 1, 5);
        bookFault("day 1;;", 1, 6);

        check.says("'day' N (1 to 60)");
        check.due("the least", book("day 1;", 1).told(2), 1);
        check.due("the most", book("day 60;", 1).told(2), 60);
        bookFault("day 0;", 2, 4);
        bookFault("day 61;", 2, 4);
        bookFault("day;", 1, 3);

        check.says("HAND: 'right', 'left', 'two', numbered from 0.");
        book("ann does sign right;bob does sign left;day 1;bob does dig two;", 4);
        bookFault("ann does sign;", 1, 13);
        bookFault("ann does sign 0;", 1, 14);
        bookFault("ann does sign both;", 1, 14);
        LeftAnswers x = Check.duchyOf(FEW);
        Check.book(x, "ann does sign right;bob does sign left;", 1);
        check.due("the right did", x.person(0, 6), 1);
        check.due("the left did", x.person(1, 6), 2);
        check.due("as numbered", x.does(1, 0, 1), 2);
        check.due("as numbered", x.does(0, 0, 0), 2);
    }

    private void sentences() {
        check.says("A SENTENCE is a text of at most 200 bytes: COND: ALL { 'or' ALL }. ALL: ONE { 'and' ONE }.");
        sentence("wed" + blanks(197), 1);
        sentence(blanks(197) + "wed", 1);
        sentenceFault("wed" + blanks(198), 1, 200);
        sentenceFault(blanks(198) + "wed", 1, 200);
        sentenceFault("", 1, 0);
        sentenceFault("wed or", 1, 6);
        sentenceFault("wed and", 1, 7);
        sentenceFault("wed busy", 1, 4);
        sentenceFault("wed;", 1, 3);
        check.due("'and' is nearer", sentence("number=0 or number=1 and wed", 3).said(-1), 1);

        check.says("ONE: 'not' ONE | ( COND )");
        sentenceFault("not", 1, 3);
        sentenceFault("not or", 1, 4);
        sentenceFault("()", 1, 1);
        sentenceFault("(wed", 1, 4);
        sentenceFault("(wed or)", 1, 7);
        sentenceFault("wed)", 1, 3);
        check.due("not of one ONE alone", sentence("not number=0 or number=0", 3).said(-1), 2);
        check.due("not of a COND", sentence("not(number=0 or number=0)", 4).said(-1), 1);
        check.due("both of an 'and'", sentence("number=0 and number<2", 2).said(-1), 1);
        check.due("both of an 'and'", sentence("number<2 and number=0", 2).said(-1), 1);
        check.due("one of an 'or'", sentence("number=0 or number=5", 2).said(-1), 1);
        check.due("one of an 'or'", sentence("number=5 or number=0", 2).said(-1), 1);

        whatIsSaid();

        check.says("( 'owns' | 'blame' | 'idea' | 'number' ) SIGN NUMBER (coins, blame, ideas; his number). SIGN: < = >.");
        for (String word : new String[] {"owns", "blame", "idea", "number"}) {
            check.due(word + " of the least", sentence(word + "<0", 1).said(-1), 0);
            check.due(word + " of the most", sentence(word + "<999", 1).said(-1), 2);
            check.due(word + " = 0", sentence(word + "=0", 1).said(0), 0);
            check.due(word + " > 0", sentence(word + ">0", 1).said(-1), word.equals("number") ? 1 : 0);
            sentenceFault(word + "<1000", 1, word.length() + 1);
            sentenceFault(word + "<=1", 1, word.length() + 1);
            sentenceFault(word + " 1", 1, word.length() + 1);
            sentenceFault(word + "<", 1, word.length() + 1);
            sentenceFault(word + "<or!", 1, word.length() + 1);
            sentenceFault(word + "<and law", 1, word.length() + 1);
            sentenceFault(word, 1, word.length());
        }

        check.says("20 ONES, 8 within one another.");
        check.due("twenty by 'or'", sentence("wed or ".repeat(19) + "number=1", 20).said(0), 1);
        LeftAnswers x = sentence("wed and ".repeat(19) + "number=1", 20);
        check.due("twenty by 'and'", x.said(-1), 0);
        x.wed(0, 1);
        check.due("twenty by 'and'", x.said(0), 1);
        sentenceFault("wed or ".repeat(20) + "wed", 4, 140);
        sentenceFault("wed and ".repeat(20) + "wed", 4, 160);
        sentenceFault("wed and wed or ".repeat(10) + "wed", 4, 150);
        sentence("not ".repeat(7) + "wed", 8);
        sentenceFault("not ".repeat(8) + "wed", 4, 32);
        sentence("(((((((wed)))))))", 8);
        sentenceFault("((((((((wed))))))))", 4, 8);
        sentence("(not(not(not(wed))))", 8);
        sentenceFault("(not(not(not(not wed))))", 4, 17);
        sentence("not not not not not not not wed or not not not not not not not wed", 16);
        sentence("((((((wed))))))and((((((wed))))))or wed", 15);
    }

    private void said(LeftAnswers x, String text, int bits) {
        Check.sentence(x, text);
        check.due("how many: " + text, x.said(-1), Integer.bitCount(bits));
        for (int k = 0, left = bits; left != 0; k++, left &= left - 1) {
            check.due("said(" + k + "): " + text, x.said(k), Integer.numberOfTrailingZeros(left));
        }
    }

    private void whatIsSaid() {
        LeftAnswers x = Check.duchyOf(SEVEN + "deed bad 1 3 9;deed wide 1 2 9 both;sees a b;sees b c;sees c d;law 9;");
        x.does(1, 0, 0);
        x.does(4, 0, 1);
        x.does(5, 1, 2);
        x.wed(3, 6);
        x.glove(0);
        x.glove(2);
        check.says("'jailed' | 'gloved' | 'wed'");
        said(x, "jailed", 2);
        said(x, "gloved", 1 | 4);
        said(x, "wed", 8 | 64);
        check.says("'busy' (a hand of his did something today)");
        said(x, "busy", 2 | 16 | 32);
        check.says("'seen' (some one who is not JAILED watches him)");
        said(x, "seen", 2 | 8);
        check.says("'to' PERSON (he is wed to that one)");
        said(x, "to g", 8);
        said(x, "to d", 64);
        said(x, "to a", 0);
        said(x, "to c", 0);
        said(x, "not to g", 127 - 8);
        check.says("(coins, blame, ideas; his number). SIGN: < = >.");
        said(x, "owns=3", 2 | 16);
        said(x, "owns>2", 2 | 16);
        said(x, "owns<3", 127 - 2 - 16);
        said(x, "owns>3", 0);
        said(x, "blame=0", 127);
        said(x, "idea=1", 16);
        said(x, "idea>0", 16);
        said(x, "number=6", 64);
        said(x, "number>5", 64);
        said(x, "number<1", 1);
        x.days(1);
        said(x, "busy", 0);
    }

    private void faultsInOrder() {
        check.says("FAULTS, the first along the text, of one TOKEN the least");
        duchyFault("law 0;law 0;law", 2, 4);
        duchyFault("law 1;law 0;law", 3, 6);
        duchyFault("person ann 0 0;", 2, 11);
        duchyFault(SEVEN + "person person 0 0;", 4, SEVEN.length());
        duchyFault("person law 0 0;", 1, 7);
        bookFault("day 1;".repeat(40) + "wed", 1, 240);
        bookFault("day 1;".repeat(40) + "zoe", 3, 240);
        bookFault("day 1;".repeat(40) + "sign", 3, 240);
        bookFault("day 1;".repeat(40) + "ann zoe", 4, 240);
        sentenceFault("wed or ".repeat(20) + "law", 1, 140);
        sentenceFault("not ".repeat(8) + "law", 1, 32);
        sentenceFault("to zoe or ".repeat(19), 3, 3);
    }

    private void faultsOfTokens() {
        check.says("1 no TOKEN, or one that can't come (at it; the end: how many bytes there are;");
        duchyFault("!", 1, 0);
        duchyFault("  !", 1, 2);
        duchyFault("law", 1, 3);
        duchyFault("law \n ", 1, 6);
        duchyFault("law 5 law", 1, 6);
        duchyFault("5", 1, 0);
        duchyFault("law" + blanks(897), 1, 900);
        bookFault("ann", 1, 3);
        bookFault("ann  ", 1, 5);
        bookFault("ann 5", 1, 4);
        bookFault("ann" + blanks(397), 1, 400);
        sentenceFault("", 1, 0);
        sentenceFault("   ", 1, 3);
        sentenceFault("not" + blanks(197), 1, 200);
        sentenceFault("not 5", 1, 4);

        check.says("2 a NUMBER that is not as told (at it)");
        duchyFault("law   31;", 2, 6);
        duchyFault("person ann 5 999;", 2, 13);
        duchyFault("deed dig 5 5 010;", 2, 13);
        bookFault("day 1;day 061;", 2, 10);
        bookFault("day 000;", 2, 4);
    }

    private void faultsOfLength() {
        check.says("the most bytes told, if there are more and no FAULT is ahead");
        duchyFault("law 5;" + blanks(934), 1, 900);
        duchyFault("law 5;law" + blanks(931), 3, 6);
        bookFault("day 1;" + blanks(934), 1, 400);
        bookFault("day 61;" + blanks(933), 2, 4);
        sentenceFault("wed" + blanks(937), 1, 200);
        sentenceFault("to zoe" + blanks(934), 3, 3);
        duchyFault("law" + blanks(898), 1, 900);
        bookFault("day" + blanks(398), 1, 400);
        sentenceFault("not" + blanks(198), 1, 200);
        duchyFault("law 5;" + blanks(894) + "!", 1, 900);
        duchyFault("law 5;" + blanks(893) + "!!", 1, 899);
        duchyFault("law 5;" + blanks(894) + "law 5;", 1, 900);
        bookFault(blanks(400) + "zoe parts;", 1, 400);
        sentenceFault("to" + blanks(198) + "zoe", 1, 200);

        check.says("TOKENS that begin ahead of it are read whole");
        duchyFault(blanks(895) + "person ann 1 1;", 1, 900);
        duchyFault(blanks(899) + "person ann 1 1;", 1, 900);
        duchyFault(blanks(899) + "persons ann 1 1;", 1, 899);
        duchyFault(blanks(899) + "l" + "a".repeat(40), 1, 899);
        duchyFault("law" + blanks(896) + "30;", 1, 900);
        duchyFault("law" + blanks(896) + "31;", 2, 899);
        duchyFault(FEW + "sees" + blanks(894 - FEW.length()) + "annx", 3, 898);
        duchyFault(FEW + "sees" + blanks(894 - FEW.length()) + "ann", 1, 900);
        bookFault(blanks(398) + "ann parts;", 1, 400);
        bookFault(blanks(397) + "annx parts;", 3, 397);
        bookFault("day" + blanks(396) + "60;", 1, 400);
        bookFault("day" + blanks(396) + "61;", 2, 399);
        sentenceFault(blanks(199) + "wed", 1, 200);
        sentenceFault(blanks(197) + "weds", 1, 197);
        sentenceFault("to" + blanks(195) + "annx", 3, 197);
        sentenceFault("to" + blanks(196) + "ann", 1, 200);
    }

    private void faultsOfNames() {
        int at = FEW.length();
        check.says("3 a NAME told twice, not told, or of another sort");
        duchyFault(FEW + "person ann 1 2;", 3, at + 7);
        duchyFault(FEW + "sees zoe bob;", 3, at + 5);
        duchyFault(FEW + "sees sign bob;", 3, at + 5);
        duchyFault(FEW + "sees ann zoe;", 3, at + 9);
        duchyFault(FEW + "sees ann sign;", 3, at + 9);
        duchyFault(FEW + "fond zoe bob 1;", 3, at + 5);
        duchyFault(FEW + "fond ann dig 1;", 3, at + 9);
        duchyFault("sees ann bob;" + FEW, 3, 5);
        bookFault("zoe parts;", 3, 0);
        bookFault("sign parts;", 3, 0);
        bookFault("ann does zoe right;", 3, 9);
        bookFault("ann does bob right;", 3, 9);
        bookFault("ann weds zoe;", 3, 9);
        bookFault("ann weds sign;", 3, 9);
        sentenceFault("to zoe", 3, 3);
        sentenceFault("to sign", 3, 3);

        check.says("two that must be unlike, or were told together (at the second)");
        duchyFault(FEW + "sees bob   bob;", 3, at + 11);
        duchyFault(FEW + "fond bob   bob 0;", 3, at + 11);
        duchyFault(FEW + "sees ann bob;sees ann   bob!", 3, at + 24);
        duchyFault(FEW + "fond ann bob 1;fond ann   bob 0;", 3, at + 26);
        duchy(FEW + "sees ann bob;fond ann bob 1;", 6);

        check.says("'law', 'cell', 'ideas' told again (at it)");
        duchyFault("law 5;  law 0;", 3, 8);
        duchyFault("cell 5;  cell 0;", 3, 9);
        duchyFault("ideas 5;  ideas 0;", 3, 10);
        duchy("law 5;cell 5;ideas 5;", 3);
    }

    private void faultsOfTooMany() {
        check.says("4 one more than there may be of a sort, a 41st LINE of a BOOK (at the LINE's first WORD)");
        duchyFault(SEVEN + "  person a 0 0;", 4, SEVEN.length() + 2);
        duchyFault(SEVEN + "person", 4, SEVEN.length());
        duchyFault(EIGHT + "  deed h 0 0 0;", 4, EIGHT.length() + 2);
        duchyFault(EIGHT + "deed", 4, EIGHT.length());
        duchy(SEVEN + EIGHT + "law 1;sees a b;", 17);
        bookFault("day 1;".repeat(40) + "  ann parts;", 4, 242);
        bookFault("day 1;".repeat(40) + "  day 0;", 4, 242);
        bookFault("day 1;".repeat(40) + "day", 4, 240);

        check.says("a 21st ONE, a ninth within (at its first TOKEN)");
        sentenceFault("wed or ".repeat(20) + "  to zoe", 4, 142);
        sentenceFault("wed or ".repeat(20) + "(wed)", 4, 140);
        sentenceFault("wed or ".repeat(20) + "not wed", 4, 140);
        sentenceFault("wed or ".repeat(19) + "not wed", 4, 137);
        sentenceFault("wed or ".repeat(19) + "(wed)", 4, 134);
        sentenceFault("not ".repeat(8) + " owns", 4, 33);
        sentenceFault("not ".repeat(8) + "(wed)", 4, 32);
        sentenceFault("(".repeat(8) + "not wed", 4, 8);
    }
}
