import java.util.ArrayList;
import java.util.List;

/** Each sentence of "1. The language" (and of the numbers ahead of it) that names a boundary: a test of its own. */
public final class EdgeLanguageTest {
    private static final String HEAD = "cask c biscuits 100 weevils 40 damp 8;mess m men 5 proud 4;";
    private static final int HEAD_TOKENS = 16;
    private static final String SIFT = HEAD + "sift c when ";
    private static final String MOST = "(65536*32767+65535)";
    private static final String LEAST = "(-65536*32767-65536)";

    public static void main(String[] args) {
        wrapAround();
        division();
        comparisons();
        positions();
        fullTape();
        emptyBehindTeach();
        blanks();
        blanksThatHaveToStand();
        longestToken();
        words();
        numbers();
        symbols();
        keywords();
        listOfNoLine();
        whenOrNot();
        chains();
        kindsOfLine();
        testsCutOff();
        depthOfOneKind();
        depthOfTwoKinds();
        depthEnds();
        oddBytes();
        tooLongTokens();
        endOfTape();
        tokens();
        firstErrorOne();
        errorOneAheadOfOthers();
        fromLeftToRight();
        twoErrorsAtOneToken();
        errorTwo();
        errorThree();
        errorFour();
        errorFive();
        numbered();
        Check.end("EdgeLanguageTest");
    }

    // ---- numbers

    private static final String STORE = "cask c biscuits 100 weevils 40 damp 8;cask d biscuits 90 weevils 0 damp 0;"
            + "cask e biscuits 3 weevils 2 damp 0;cask f biscuits 0 weevils 7 damp 0;mess m men 5 proud 4;";

    /** The test holds on day 0, in a line of each sort, and its contrary does not; or the other way round. */
    private static void dueHolds(String test, boolean due) {
        BiscuitMess x = Check.ship(STORE + "sift d when " + test + ";");
        x.pass(1);
        Check.due("sift when " + test, x.cask(1, 4), due ? 1 : 0);
        x = Check.ship(STORE + "throw d when not [" + test + "];");
        x.pass(1);
        Check.due("aboard behind throw when not " + test, x.cask(1, 3), due ? 1 : 0);
        x = Check.ship(STORE + "issue m from d when " + test + ";");
        x.pass(1);
        Check.due("got by issue when " + test, x.mess(0, 3), due ? 5 : 0);
    }

    private static void dueAllHold(String... tests) {
        for (String test : tests) {
            dueHolds(test, true);
        }
    }

    private static void wrapAround() {
        Check.sentence("sums, differences and products of the language wrap around in 32 bits");
        dueAllHold(MOST + ">0", LEAST + "<0", MOST + "/100000=21474", LEAST + "/100000=-21474");
        dueAllHold(MOST + "+1=" + LEAST, MOST + "+" + MOST + "=-2", LEAST + "+" + LEAST + "=0", LEAST + "+-1=" + MOST);
        dueAllHold(LEAST + "-1=" + MOST, "0-" + LEAST + "=" + LEAST, MOST + "-" + LEAST + "=-1", "-2-" + MOST + "=" + MOST);
        dueAllHold("-" + LEAST + "=" + LEAST, "-" + MOST + "-1=" + LEAST);
        dueAllHold("46340*46340>0", "46341*46341<0", "65536*65536=0", "65536*32768=" + LEAST, MOST + "*" + MOST + "=1",
                LEAST + "*-1=" + LEAST, "999999*999999/100000=-7293");
    }

    private static void division() {
        Check.sentence("/ is cut towards 0, gives 0 with 0 on the right side, and -2147483648 / -1 gives -2147483648");
        dueAllHold("1/2=0", "-1/2=0", "1/-2=0", "-1/-2=0", "7/2=3", "-7/2=-3", "7/-2=-3", "-7/-2=3", "6/3=2", "-6/3=-2", "5/1=5");
        dueAllHold("5/0=0", "-5/0=0", "0/0=0", "5/day=0", LEAST + "/0=0", MOST + "/0=0", "5/(3-3)+1=1", "0/5=0");
        dueAllHold(LEAST + "/-1=" + LEAST, LEAST + "/1=" + LEAST, MOST + "/-1=" + LEAST + "+1", "(" + LEAST + "+1)/-1=" + MOST);
    }

    /** No difference is taken for them, which would wrap around. */
    private static void comparisons() {
        Check.sentence("( \"<\" | \">\" | \"=\" | \"<=\" | \">=\" )");
        String[] signs = {"<", ">", "=", "<=", ">="};
        String[] pairs = {"4", "5", "5", "4", "4", "4", "-1", "0", "-5", "-4", LEAST, MOST, MOST, LEAST, MOST, "-1", LEAST, "1"};
        boolean[] less = {true, false, false, true, true, true, false, false, true};
        for (int i = 0; i < pairs.length; i += 2) {
            boolean same = pairs[i].equals(pairs[i + 1]);
            boolean[] due = {less[i / 2], !same && !less[i / 2], same, same || less[i / 2], !less[i / 2]};
            for (int sign = 0; sign < 5; sign++) {
                dueHolds(pairs[i] + signs[sign] + pairs[i + 1], due[sign]);
            }
        }
        Check.sentence("( \"min\" | \"max\" )");
        dueAllHold("min(1,2)=1", "min(2,1)=1", "min(2,2)=2", "max(1,2)=2", "max(2,1)=2", "max(2,2)=2");
        dueAllHold("min(" + MOST + "," + LEAST + ")=" + LEAST, "max(" + MOST + "," + LEAST + ")=" + MOST,
                "min(" + LEAST + ",1)<0", "max(" + MOST + ",-1)>0");
    }

    private static void positions() {
        Check.sentence("Positions of the tape are counted from 0, in bytes");
        Check.dueErrorAtMark("^?", 1);
        Check.dueErrorAtMark(" ^?", 1);
        Check.dueErrorAtMark("\n\n \n^?", 1);
        Check.dueErrorAtMark("cask c\n^c", 1);
    }

    // ---- the tape

    private static String padded(String text, int length, String end) {
        return text + " ".repeat(length - text.length() - end.length()) + end;
    }

    private static void fullTape() {
        Check.sentence("The tape is a row of at most 2000 bytes, at first empty");
        Check.due("bytes of a new object", new BiscuitMess().count(13), 0);
        Check.dueError(padded(HEAD, 2000, "sift c when 1=1;"), 0, -1);
        Check.dueError(padded(HEAD, 1999, "sift c when 1=1;"), 0, -1);
        Check.dueError(padded(HEAD, 2000, "sift c when 1=1"), 1, 2000);
        Check.dueError(padded(HEAD, 1999, "sift c when 1=1"), 1, 1999);
        Check.dueError(padded(HEAD, 2000, "?"), 1, 1999);
        Check.dueError(padded(HEAD, 2000, "a"), 1, 1999);
        Check.dueError(padded(HEAD, 2000, "sift c when 1=1234567"), 1, 1993);
        Check.dueError(padded("", 2000, ""), 0, -1);
        BiscuitMess x = new BiscuitMess();
        Check.write(x, padded(HEAD, 2000, "cask d biscuits 77 weevils 0 damp 19;"));
        Check.due("bytes of a full tape", x.count(13), 2000);
        Check.due("teach of a full tape", x.teach(), 0);
        Check.dueCask(x, 1, 77, 0, 19, 1, 0);
    }

    private static void emptyBehindTeach() {
        Check.sentence("teach reads it as a list of orders, and it is empty behind it");
        String[] texts = {HEAD, "", "?", HEAD + "mess m men 1 proud 1;", HEAD + "sift x when 1=1;",
            SIFT + "1=1;" + "throw c when 1=1;".repeat(12), "mess m men 0 proud 1;", " ".repeat(2000)};
        int[] errors = {0, 0, 1, 2, 3, 4, 5, 0};
        for (int i = 0; i < texts.length; i++) {
            BiscuitMess x = new BiscuitMess();
            Check.write(x, texts[i]);
            Check.due("bytes ahead of teach", x.count(13), texts[i].length());
            Check.due("teach of " + texts[i], x.teach(), errors[i]);
            Check.due("bytes behind teach", x.count(13), 0);
            Check.due("feed behind teach", x.feed(0x20202020, 0x20202020, 0x20202020, 0x20202020, 0x20202020), 20);
            Check.due("teach of blanks behind it", x.teach(), 0);
            Check.due("nothing is left of it", x.count(2) + x.count(4), 0);
        }
    }

    // ---- tokens

    private static void blanks() {
        Check.sentence("Blanks (32) and line ends (10) can stand between tokens, at the beginning and at the end");
        for (String blank : new String[] {" ", "\n", "  ", "\n\n", " \n", "\n "}) {
            Check.dueError(blank, 0, -1);
            Check.dueError(blank + HEAD, 0, -1);
            Check.dueError(HEAD + blank, 0, -1);
            Check.dueError(("cask c biscuits 1 weevils 2 damp 3 ; mess m men 1 proud 1 ; issue m from c when not [ - ( 1 ) <= min ( 2 , 3 ) ] "
                    + "or taps c * 2 / 3 + 4 - 5 >= got m and day < ration ;").replace(" ", blank), 0, -1);
        }
        for (int sign : new int[] {0, 8, 9, 11, 12, 13, 31, 33, 127, 128, 138, 160, 255}) {
            Check.dueError("" + (char) sign, 1, 0);
            Check.dueError((char) sign + HEAD, 1, 0);
            Check.dueError(HEAD + (char) sign, 1, HEAD.length());
            Check.dueError("cask" + (char) sign + "c biscuits 1 weevils 2 damp 3;", 1, 4);
        }
    }

    private static void blanksThatHaveToStand() {
        Check.sentence("and have to stand between two tokens that would otherwise be read as one");
        Check.dueErrorAtMark("^caskc biscuits 1 weevils 2 damp 3;", 1);
        Check.dueErrorAtMark("cask cbiscuits ^1 weevils 2 damp 3;", 1);
        Check.dueErrorAtMark("cask c ^biscuits1 weevils 2 damp 3;", 1);
        Check.dueErrorAtMark(SIFT + "1< ^=2;", 1);
        Check.dueErrorAtMark(SIFT + "1> ^=2;", 1);
        Check.dueErrorAtMark(SIFT + "1 ^2=12;", 1);
        Check.dueErrorAtMark(SIFT + "^not1=2;", 1);
        Check.dueErrorAtMark(SIFT + "1=2 ^and1=2;", 1);
        Check.dueError(SIFT.trim() + "(1)=1and(day)=0or-1<-2and not[1=2]and max(1,2)=2;", 0, -1);
        Check.dueError("cask c biscuits 1weevils 2damp 3;mess m men 1proud 1;issue m from c when 1=2or 1=1;", 0, -1);
        Check.dueError(SIFT + "1<=2 and 1>=-2 and 1<-2 and 1=-2 and 1>(2);", 0, -1);
    }

    private static void longestToken() {
        Check.sentence("The longest possible token is always read");
        Check.dueErrorAtMark(SIFT + "1<=^=2;", 1);
        Check.dueErrorAtMark(SIFT + "1=^<2;", 1);
        Check.dueErrorAtMark(SIFT + "1=^>2;", 1);
        Check.dueErrorAtMark(SIFT + "1<^>2;", 1);
        Check.dueErrorAtMark(SIFT + "1>^<2;", 1);
        Check.dueErrorAtMark(SIFT + "1>=^>2;", 1);
        Check.dueErrorAtMark(SIFT + "^minmax(1,2)=1;", 1);
        Check.dueErrorAtMark(SIFT + "^dayday=1;", 1);
        Check.dueErrorAtMark(SIFT + "1=1 ^andnot 1=2;", 1);
        Check.dueError("cask cask1 biscuits 1 weevils 2 damp 3;sift cask1 when 12=12;", 0, -1);
        dueHolds("12=12", true);
        dueHolds("12=1", false);
        dueHolds("1<=1", true);
        dueHolds("1>=1", true);
    }

    private static String caskLine(String name) {
        return "cask " + name + " biscuits 1 weevils 2 damp 3;";
    }

    private static void words() {
        Check.sentence("A word: a letter a to z, followed by letters a to z and digits, at most 10 bytes");
        for (String name : new String[] {"a", "z", "a0", "a9", "z0z9", "abcdefghij", "zzzzzzzzzz", "a999999999", "az09az09az"}) {
            Check.dueError(caskLine(name) + "sift " + name + " when biscuits " + name + "=1;", 0, -1);
        }
        Check.dueErrorAtMark(caskLine("^abcdefghijk"), 1);
        Check.dueErrorAtMark(caskLine("^a9999999990"), 1);
        Check.dueErrorAtMark(caskLine("^" + "a".repeat(500)), 1);
        for (char sign : new char[] {'`', '{', '@', '[', 'A', 'Z', '_', '/', ':', '.', '\'', '"', '$', (char) 228, (char) 225}) {
            Check.dueError(caskLine("" + sign), 1, 5);
            Check.dueError(caskLine("c" + sign), 1, 6);
        }
        Check.dueErrorAtMark(caskLine("^0a"), 1);
        Check.dueErrorAtMark(caskLine("^9"), 1);
        Check.dueErrorAtMark("^casK c;", 1);
    }

    private static void numbers() {
        Check.sentence("A number: 1 to 6 digits");
        dueAllHold("0=0", "9=9", "999999=999999", "000000=0", "000001=1", "100000/100000=1", "999999+1=1000*1000", "012=12");
        dueAllHold("123456/1000=123", "098765/1000=98");
        Check.dueErrorAtMark(SIFT + "^1000000=1;", 1);
        Check.dueErrorAtMark(SIFT + "^0000000=1;", 1);
        Check.dueErrorAtMark(SIFT + "1=^0000001;", 1);
        Check.dueErrorAtMark(SIFT + "1=^4294967297;", 1);
        Check.dueErrorAtMark(SIFT + "1=^18446744073709551617;", 1);
        Check.dueErrorAtMark("cask c biscuits ^" + "0".repeat(300) + "1 weevils 2 damp 3;", 1);
    }

    private static void symbols() {
        Check.sentence("Symbols: ( ) [ ] ; , + - * / < > = <= >=");
        Check.dueError(SIFT + "[(1)+2-3*4/5<min(1,2)]or[1>2]and 1=2 or 1<=2 and 1>=2;", 0, -1);
        for (String sign : new String[] {"==", "=<", "=>", "<>", "><", "<<", ">>", "!=", ":", "%", "&", "|", "^", "~", "**", "//", "++"}) {
            BiscuitMess x = new BiscuitMess();
            Check.write(x, SIFT + "1" + sign + "2;");
            Check.due("teach with " + sign, x.teach(), 1);
            boolean symbol = "+-*/<>=".indexOf(sign.charAt(0)) >= 0;
            Check.due("place of " + sign, x.errorAt(), SIFT.length() + (symbol ? 2 : 1));
        }
    }

    private static final String[] KEYWORDS = {"cask", "biscuits", "weevils", "damp", "mess", "men", "proud", "issue", "from",
        "when", "sift", "throw", "day", "ration", "temper", "got", "taps", "not", "and", "or", "min", "max"};

    private static void keywords() {
        Check.sentence("The keywords are: cask biscuits weevils damp mess men proud issue from when sift throw day ration temper got"
                + " taps not and or min max. All other words are names.");
        for (String word : KEYWORDS) {
            Check.dueErrorAtMark("cask ^" + word + " biscuits 1 weevils 2 damp 3;", 1);
            Check.dueErrorAtMark("mess ^" + word + " men 1 proud 1;", 1);
            for (String name : new String[] {word + "s", word + "0", "a" + word, word.substring(1), word.substring(0, word.length() - 1)}) {
                Check.dueError(caskLine(name) + "sift " + name + " when taps " + name + "=0;", 0, -1);
            }
        }
        for (String name : new String[] {"tap", "aboard", "overboard", "true", "order", "list", "line", "test", "sum", "casks", "is"}) {
            Check.dueError("mess " + name + " men 1 proud 1;cask c biscuits 1 weevils 1 damp 1;issue " + name + " from c;", 0, -1);
        }
    }

    // ---- the grammar

    private static void listOfNoLine() {
        Check.sentence("list = { line \";\" }");
        Check.dueError("", 0, -1);
        Check.dueError("mess m men 1 proud 1;", 0, -1);
        Check.dueErrorAtMark("mess m men 1 proud 1^", 1);
        Check.dueErrorAtMark("^;", 1);
        Check.dueErrorAtMark("mess m men 1 proud 1;^;", 1);
        Check.dueErrorAtMark("mess m men 1 proud 1 ^mess n men 1 proud 1;", 1);
        Check.dueError("mess m men 1 proud 1;mess n men 1 proud 1;mess o men 1 proud 1;", 0, -1);
    }

    private static void whenOrNot() {
        Check.sentence("\"issue\" name \"from\" name [ \"when\" test ] | ( \"sift\" | \"throw\" ) name \"when\" test");
        Check.dueError(HEAD + "issue m from c;", 0, -1);
        Check.dueError(HEAD + "issue m from c when 1=1;", 0, -1);
        Check.dueErrorAtMark(HEAD + "issue m from c when^", 1);
        Check.dueErrorAtMark(HEAD + "issue m from c when 1=1 ^when 1=1;", 1);
        Check.dueErrorAtMark(HEAD + "sift c^;", 1);
        Check.dueErrorAtMark(HEAD + "throw c^;", 1);
        Check.dueErrorAtMark(HEAD + "sift c ^1=1;", 1);
        Check.dueErrorAtMark(HEAD + "throw c when ^;", 1);
        Check.dueErrorAtMark(HEAD + "sift c ^from c when 1=1;", 1);
        BiscuitMess x = Check.ship(HEAD + "issue m from c;");
        x.pass(1);
        Check.due("an issue without a test", x.mess(0, 3), 5);
    }

    /** None, one and many more behind the first one, and one that is begun and not ended. */
    private static void chains() {
        Check.sentence("{ x } any number of times, also none");
        String[][] links = {{"1=1", " or 1=2", " or "}, {"1=1", " and 2=2", " and "}, {"1=1", "+1", "+"}, {"1=1", "-1", "-"},
            {"1=1", "*1", "*"}, {"1=1", "/1", "/"}};
        for (String[] link : links) {
            for (int times : new int[] {0, 1, 2, 3, 50, 80}) {
                String text = SIFT + link[0] + link[1].repeat(times);
                Check.dueError(text + ";", 0, -1);
                Check.dueErrorAtMark(text + link[2] + "^;", 1);
                Check.dueErrorAtMark(text + link[2] + "^", 1);
            }
        }
        dueAllHold("1" + "+1".repeat(99) + "=100", "100" + "-1".repeat(99) + "=1", "1" + "*2".repeat(30) + "=1024*1024*1024",
                "999999" + "/9".repeat(6) + "=1", "1=2" + " or 1=2".repeat(60) + " or 1=1", "1=1" + " and 1=1".repeat(60));
        dueHolds("1=1" + " and 1=1".repeat(60) + " and 1=2", false);
        dueHolds("1=2 and 1=1" + " and 1=1".repeat(50), false);
        dueHolds("1=2" + " or 1=2".repeat(60), false);
        Check.sentence("and binds more than or, not more than and");
        dueAllHold("1=1 or 1=1 and 1=2", "1=2 and 1=2 or 1=1", "1=1 or 1=2 and 1=2", "not 1=1 or 1=1", "not 1=2 or 1=2", "not [1=1 and 1=2]");
        dueHolds("not 1=1 and 1=2", false);
        dueHolds("not 1=2 and 1=2", false);
        dueHolds("[1=1 or 1=1] and 1=2", false);
        dueAllHold("8-3-2=3", "8-(3-2)=7", "8/4/2=1", "8/(4/2)=4", "2+3*4=14", "(2+3)*4=20", "7*5/2=17", "7*(5/2)=14", "-3+5=2", "-(3+5)=-8",
                "2*-3=-6", "2--3=5", "-2*-3=6");
    }

    private static void kindsOfLine() {
        Check.sentence("line = \"cask\" name \"biscuits\" number \"weevils\" number \"damp\" number | \"mess\" name \"men\" number \"proud\" number");
        String[] lines = {"cask d biscuits 1 weevils 2 damp 3 ;", "mess n men 1 proud 1 ;", "issue m from c ;",
            "issue m from c when day = ration ;", "sift c when taps c < 1 ;", "throw c when got m > 1 ;"};
        for (String line : lines) {
            String[] tokens = line.split(" ");
            Check.dueError(HEAD + line, 0, -1);
            int at = 0;
            for (int i = 0; i < tokens.length; i++) {
                String before = HEAD + line.substring(0, at);
                String behind = line.substring(Math.min(line.length(), at + tokens[i].length() + 1));
                Check.dueError(before, i == 0 ? 0 : 1, i == 0 ? -1 : before.length());
                Check.dueError(before + behind, 1, before.length());
                Check.dueError(before + "? " + behind, 1, before.length());
                if (!tokens[i].equals(";") && !before.endsWith("issue m from c ")) {
                    Check.dueError(before + "; " + behind, 1, before.length());
                }
                at += tokens[i].length() + 1;
            }
        }
    }

    /** However far a test has come, it can't end before it is whole. */
    private static void testsCutOff() {
        Check.sentence("test = both { \"or\" both }");
        String[] tokens = "not [ 1 < 2 and - ( biscuits c + day ) * min ( 3 , taps c ) >= got m - 1 or day = max ( ration , 2 ) / men m ]".split(" ");
        StringBuilder text = new StringBuilder(SIFT);
        for (String token : tokens) {
            Check.dueError(text.toString(), 1, text.length());
            Check.dueError(text + ";", 1, text.length());
            Check.dueError(text + "?", 1, text.length());
            Check.dueError(text + "; sift c when 1=1;", 1, text.length());
            text.append(token).append(' ');
        }
        Check.dueError(text + ";", 0, -1);
    }

    // ---- the depth

    private static final String[][] OF_TESTS = {{"[", "]"}, {"not ", ""}};
    private static final String[][] OF_SUMS = {{"(", ")"}, {"-", ""}, {"min(", ",1)"}, {"max(", ",1)"}, {"min(1,", ")"}, {"max(1,", ")"}};

    /** Where the depth grows by it: at its ( if it has one. */
    private static int placeOf(String open) {
        return Math.max(0, open.indexOf('('));
    }

    private static void depthOfOneKind() {
        Check.sentence("It may be at most 8");
        for (String[] kind : OF_TESTS) {
            dueDepth(kind, 8, OF_SUMS[0], 0);
        }
        for (String[] kind : OF_SUMS) {
            dueDepth(OF_TESTS[0], 0, kind, 8);
            Check.dueError(HEAD + "issue m from c when 1<" + kind[0].repeat(8) + "1" + kind[1].repeat(8) + ";", 0, -1);
            Check.dueError(HEAD + "throw c when 1<" + kind[0].repeat(9) + "1" + kind[1].repeat(9) + ";", 1,
                    HEAD.length() + "throw c when 1<".length() + kind[0].length() * 8 + placeOf(kind[0]));
        }
    }

    private static void depthOfTwoKinds() {
        Check.sentence("the (, [, - or not behind which the depth would be 9");
        for (String[] outer : OF_TESTS) {
            for (String[] inner : OF_SUMS) {
                for (int i = 1; i < 8; i++) {
                    dueDepth(outer, i, inner, 8 - i);
                }
            }
        }
    }

    /** That many of the two are a list; with one more of either sort, the error is at this. */
    private static void dueDepth(String[] outer, int outers, String[] inner, int inners) {
        String open = outer[0].repeat(outers) + inner[0].repeat(inners);
        String close = inner[1].repeat(inners);
        String ends = outer[1].repeat(outers);
        Check.dueError(SIFT + open + "1" + close + "=1" + ends + ";", 0, -1);
        for (String[] more : OF_SUMS) {
            Check.dueError(SIFT + open + more[0] + "1" + more[1] + close + "=1" + ends + ";", 1,
                    SIFT.length() + open.length() + placeOf(more[0]));
        }
        if (inners == 0) {
            for (String[] more : OF_TESTS) {
                Check.dueError(SIFT + open + more[0] + "1=1" + more[1] + ends + ";", 1, SIFT.length() + open.length());
            }
        }
    }

    private static void depthEnds() {
        String eight = "((((((((1))))))))";
        Check.sentence("1 greater between a ( and its )");
        Check.dueError(SIFT + eight + "+" + eight + "*" + eight + "=" + eight + ";", 0, -1);
        Check.dueErrorAtMark(SIFT + eight + "+((((((((^(1)))))))))=1;", 1);
        Check.dueError(SIFT + "min(" + eight.substring(1, 16) + "," + eight.substring(1, 16) + ")=" + eight + ";", 0, -1);
        Check.dueErrorAtMark(SIFT + "min(1,(((((((^(1)))))))))=1;", 1);
        Check.dueErrorAtMark(SIFT + "min((((((((^(1)))))))),1)=1;", 1);
        Check.sentence("a [ and its ]");
        Check.dueError(SIFT + "[[[[[[[[1=1]]]]]]]] and [[[[[[[[1=1]]]]]]]] or [[[[[[[[1=1]]]]]]]] and " + eight + "=1;", 0, -1);
        Check.dueErrorAtMark(SIFT + "[[[[[[[[1=1]]]]]]]] and [[[[[[[[^[1=1]]]]]]]]];", 1);
        Check.dueErrorAtMark(SIFT + "[1=1 and [[[[[[[^[1=1]]]]]]]]];", 1);
        Check.sentence("behind a - in front (of a value) for what it turns");
        Check.dueError(SIFT + "--------1*" + eight + "--------1/" + eight + "=--------1;", 0, -1);
        Check.dueErrorAtMark(SIFT + "-(((((((^(1))))))))=1;", 1);
        Check.dueError(SIFT + "0-" + eight + "=0---------1;", 0, -1);
        Check.dueErrorAtMark(SIFT + "0---------^-1=0;", 1);
        Check.sentence("behind a not for what it turns");
        String nots = "not ".repeat(8);
        Check.dueError(SIFT + nots + "1=1 and " + nots + "1=1 or " + nots + "1=1 and " + eight + "=1;", 0, -1);
        Check.dueErrorAtMark(SIFT + nots + "^(1)=1;", 1);
        Check.dueErrorAtMark(SIFT + nots + "1=^(1);", 1);
        Check.dueErrorAtMark(SIFT + "not 1=-------^-1;", 1);
        Check.dueErrorAtMark(SIFT + nots + "1=1 and " + nots + "^not 1=1;", 1);
        Check.sentence("1 greater between a ( and its ), a [ and its ]");
        for (String sign : new String[] {"+", "-", "*", "/"}) {
            Check.dueErrorAtMark(SIFT + "((((((((1" + sign + "^(1", 1);
            Check.dueErrorAtMark(SIFT + "min((((((((1" + sign + "^(1", 1);
            Check.dueErrorAtMark(SIFT + "min(1,(((((((1" + sign + "^(1", 1);
        }
        Check.dueErrorAtMark(SIFT + "[[[[[[[[1<^(1", 1);
        Check.dueErrorAtMark(SIFT + "[[[[[[[[1>=^-1", 1);
        Check.dueErrorAtMark(SIFT + "[[[[[[[[1=1 and ^[1=1", 1);
        Check.dueErrorAtMark(SIFT + "[[[[[[[[1=1 or ^[1=1", 1);
        Check.dueErrorAtMark(SIFT + "[[[[[[[[1=1 or 1=1 and ^not 1=1", 1);
        Check.sentence("It is 0 at the beginning");
        Check.dueError(SIFT + eight + "=1;sift c when " + eight + "=1;issue m from c when " + eight + "=1;", 0, -1);
    }

    // ---- error 1

    private static void oddBytes() {
        Check.sentence("a byte with which no token begins");
        String begins = "()[];,+-*/<>= \n";
        for (int sign = 0; sign < 256; sign++) {
            boolean letter = sign >= 'a' && sign <= 'z';
            boolean digit = sign >= '0' && sign <= '9';
            if (!letter && !digit && begins.indexOf(sign) < 0) {
                Check.dueError(SIFT + "1" + (char) sign + "=1;", 1, SIFT.length() + 1);
                Check.dueError(SIFT + (char) sign + "1=1;", 1, SIFT.length());
            }
        }
        for (String bad : new String[] {"?", "abcdefghijk", "1234567"}) {
            for (String ahead : new String[] {"-", "not ", "(", "[", "- -", "not not "}) {
                Check.dueErrorAtMark(SIFT + ahead + "^" + bad + " 1=1;", 1);
            }
            Check.dueErrorAtMark(SIFT + "((1)^" + bad + "=1;", 1);
            Check.dueErrorAtMark(SIFT + "[[1=1]^" + bad + ";", 1);
        }
    }

    private static void tooLongTokens() {
        Check.sentence("a word or number that is too long");
        Check.dueErrorAtMark("^caskcaskcaskcask c;", 1);
        Check.dueErrorAtMark(SIFT + "biscuits ^c1234567890=1;", 1);
        Check.dueErrorAtMark(SIFT + "^biscuits000=1;", 1);
        Check.dueErrorAtMark("mess m men ^1234567 proud 1;", 1);
        Check.dueErrorAtMark("mess m men 123456 ^1234567 1;", 1);
        Check.dueErrorAtMark("cask abcdefghij biscuits 1 weevils 1 damp 1;sift ^abcdefghijk when 1=1;", 1);
    }

    private static void endOfTape() {
        Check.sentence("the end of the tape (at its length)");
        Check.dueErrorAtMark("cask^", 1);
        Check.dueErrorAtMark("cask ^", 1);
        Check.dueErrorAtMark("cask c biscuits 5 \n \n^", 1);
        Check.dueErrorAtMark(HEAD + "sift c when 1=1^", 1);
        Check.dueErrorAtMark(HEAD + "issue m from c  ^", 1);
        Check.dueError(HEAD + "sift" + " ".repeat(2000 - HEAD.length() - 4), 1, 2000);
    }

    /** A list of just that many tokens, which ends with a ; (for an odd number). */
    private static String ofTokens(int tokens) {
        int more = tokens - HEAD_TOKENS - 7;
        return SIFT + "1" + "+1".repeat(more / 2) + "=" + (more % 2 == 0 ? "" : "-") + "1;";
    }

    private static void tokens() {
        Check.sentence("the token that would be the 401st (the end of the tape not counted)");
        Check.dueError(ofTokens(399), 0, -1);
        Check.dueError(ofTokens(400), 0, -1);
        Check.dueError(ofTokens(400) + " \n ", 0, -1);
        Check.dueError(ofTokens(401), 1, ofTokens(401).length() - 1);
        String full = ofTokens(400);
        for (String more : new String[] {"cask d biscuits 1 weevils 1 damp 1;", "?", "1", "abcdefghijk", "1234567", ";", "mess m men 1 proud 1;"}) {
            Check.dueError(full + more, 1, full.length());
            Check.dueError(full + "\n " + more, 1, full.length() + 2);
        }
        String cut = full.substring(0, full.length() - 1);
        Check.dueErrorAtMark(cut + "+^", 1);
        Check.dueErrorAtMark(cut + "+^1;", 1);
        Check.dueErrorAtMark(cut + "+ ^?", 1);
        Check.dueErrorAtMark("sift x when 1" + "+1".repeat(197) + "=1^;", 1);
        Check.dueErrorAtMark("sift ^x when 1" + "+1".repeat(196) + "=1;", 3);
    }

    private static void firstErrorOne() {
        Check.sentence("Error 1: the first token with which the tokens so far are not the beginning of a list");
        Check.dueErrorAtMark("cask ^5 ? 1234567;", 1);
        Check.dueErrorAtMark(HEAD + "^5;?", 1);
        Check.dueErrorAtMark(SIFT + "^) 1234567", 1);
        Check.dueErrorAtMark(SIFT + "1 ^[[[[[[[[[1=1;", 1);
        Check.dueErrorAtMark(SIFT + "((((((((^(1);?", 1);
        Check.dueErrorAtMark("^x" + " x".repeat(500), 1);
    }

    // ---- errors 2 to 5

    private static void errorOneAheadOfOthers() {
        Check.sentence("Only if there is no error 1, keywords, names and numbers are looked at");
        String[] wrong = {HEAD + "cask c biscuits 1 weevils 1 damp 1;", "issue m from c;", HEAD + "issue m from c;".repeat(25),
            "mess m men 0 proud 1;"};
        int[] errors = {2, 3, 4, 5};
        int[] places = {HEAD.length() + 5, 6, HEAD.length() + 24 * 15, 11};
        for (int i = 0; i < wrong.length; i++) {
            Check.dueError(wrong[i], errors[i], places[i]);
            Check.dueError(wrong[i] + "?", 1, wrong[i].length());
            Check.dueError(wrong[i] + "cask", 1, wrong[i].length() + 4);
            Check.dueError(wrong[i] + ";", 1, wrong[i].length());
            Check.dueError(wrong[i].substring(0, wrong[i].length() - 1), 1, wrong[i].length() - 1);
        }
    }

    private static void fromLeftToRight() {
        Check.sentence("from left to right, and the first error is told, at its token");
        String[] lines = {"cask ^c biscuits 1 weevils 1 damp 1;", "issue ^x from c;", "^throw c when 1=1;", "mess n men ^31 proud 1;"};
        int[] errors = {2, 3, 4, 5};
        String full = HEAD + "sift c when 1=1;".repeat(12);
        for (int first = 0; first < 4; first++) {
            for (int second = 0; second < 4; second++) {
                Check.dueErrorAtMark(full + lines[first] + lines[second].replace("^", ""), errors[first]);
            }
        }
        Check.dueErrorAtMark("mess m men ^0 proud 0;", 5);
        Check.dueErrorAtMark("cask c biscuits ^1000 weevils 10000 damp 21;", 5);
        Check.dueErrorAtMark("cask c biscuits 999 weevils ^10000 damp 21;", 5);
        Check.dueErrorAtMark(HEAD + "issue ^x from y when taps z=1;", 3);
        Check.dueErrorAtMark(HEAD + "issue m from ^y when taps z=1;", 3);
        Check.dueErrorAtMark(HEAD + "issue m from c when taps ^z=got y;", 3);
        Check.dueErrorAtMark(full + "^sift x when taps y=1;", 4);
        Check.dueErrorAtMark(HEAD + "mess ^m men 0 proud 0;", 2);
    }

    private static String casks(int casks) {
        StringBuilder text = new StringBuilder();
        for (int i = 0; i < casks; i++) {
            text.append("cask c").append(i).append(" biscuits ").append(i + 10).append(" weevils 1 damp 1;");
        }
        return text.toString();
    }

    private static String messes(int messes) {
        StringBuilder text = new StringBuilder();
        for (int i = 0; i < messes; i++) {
            text.append("mess m").append(i).append(" men ").append(i + 20).append(" proud 1;");
        }
        return text.toString();
    }

    private static void twoErrorsAtOneToken() {
        Check.sentence("of errors at one token the one with the smallest number");
        for (int i = 0; i < 8; i++) {
            Check.dueErrorAtMark(casks(8) + "cask ^c" + i + " biscuits 1 weevils 1 damp 1;", 2);
        }
        for (int i = 0; i < 6; i++) {
            Check.dueErrorAtMark(messes(6) + "mess ^m" + i + " men 1 proud 1;", 2);
        }
    }

    private static void errorTwo() {
        Check.sentence("Error 2: the name behind cask or mess (at the beginning of a line) is that of one of the same sort told ahead");
        Check.dueErrorAtMark("cask c biscuits 1 weevils 1 damp 1;cask ^c biscuits 1 weevils 1 damp 1;", 2);
        Check.dueErrorAtMark("mess c men 1 proud 1;mess ^c men 1 proud 1;", 2);
        Check.dueError("cask c biscuits 1 weevils 1 damp 1;mess c men 1 proud 1;", 0, -1);
        Check.dueError("mess c men 1 proud 1;cask c biscuits 1 weevils 1 damp 1;", 0, -1);
        Check.dueErrorAtMark("mess c men 1 proud 1;cask c biscuits 1 weevils 1 damp 1;mess ^c men 1 proud 1;", 2);
        Check.dueError(casks(7) + "cask c7 biscuits 1 weevils 1 damp 1;", 0, -1);
        Check.dueErrorAtMark(casks(7) + "cask ^c6 biscuits 1 weevils 1 damp 1;", 2);
        Check.dueErrorAtMark(casks(7) + "cask ^c0 biscuits 1 weevils 1 damp 1;", 2);
        Check.dueErrorAtMark(messes(5) + "mess ^m4 men 1 proud 1;", 2);
        Check.dueErrorAtMark(messes(5) + "mess ^m0 men 1 proud 1;", 2);
        Check.dueError("cask c biscuits 1 weevils 1 damp 1;cask cc biscuits 1 weevils 1 damp 1;cask c0 biscuits 1 weevils 1 damp 1;", 0, -1);
        BiscuitMess x = Check.ship(HEAD);
        Check.write(x, HEAD);
        Check.due("the names of the list before are no longer told", x.teach(), 0);
        otherNames();
    }

    /** Two different words are never the same name. */
    private static void otherNames() {
        List<String> names = new ArrayList<>();
        String letters = "abcdefghijklmnopqrstuvwxyz";
        for (char sign : letters.toCharArray()) {
            names.add("" + sign);
        }
        for (char first : "abcdefz".toCharArray()) {
            for (char second : (letters + "0123456789").toCharArray()) {
                names.add("" + first + second);
                names.add("aaaaaaaa" + first + second);
            }
        }
        names.removeAll(List.of("or"));
        for (int i = 0; i < names.size(); i++) {
            for (int k = 0; k < i; k++) {
                BiscuitMess x = new BiscuitMess();
                Check.write(x, "mess " + names.get(i) + " men 1 proud 1;mess " + names.get(k) + " men 1 proud 1;");
                Check.due("teach of the names " + names.get(i) + " and " + names.get(k), x.teach(), 0);
            }
        }
    }

    private static void errorThree() {
        Check.sentence("Error 3: another name is none of what it has to be, told ahead");
        for (String name : new String[] {"x", "c", "mm", "m0"}) {
            Check.dueErrorAtMark(HEAD + "issue ^" + name + " from c;", 3);
            for (String of : new String[] {"men", "temper", "got"}) {
                Check.dueErrorAtMark(SIFT + of + " ^" + name + "=1;", 3);
                Check.dueErrorAtMark(HEAD + "issue m from c when 1=" + of + " ^" + name + ";", 3);
                Check.dueError(HEAD + "issue m from c when 1=" + of + " m;", 0, -1);
            }
        }
        for (String name : new String[] {"x", "m", "cc", "c0"}) {
            for (String line : new String[] {"issue m from ^%;", "sift ^% when 1=1;", "throw ^% when 1=1;"}) {
                Check.dueErrorAtMark(HEAD + line.replace("%", name), 3);
            }
            for (String of : new String[] {"biscuits", "weevils", "damp", "taps"}) {
                Check.dueErrorAtMark(SIFT + of + " ^" + name + "=1;", 3);
                Check.dueErrorAtMark(HEAD + "issue m from c when 1=" + of + " ^" + name + ";", 3);
                Check.dueError(HEAD + "issue m from c when 1=" + of + " c;", 0, -1);
            }
        }
        toldOnlyLater();
    }

    private static void toldOnlyLater() {
        String cask = "cask c biscuits 1 weevils 1 damp 1;";
        String mess = "mess m men 1 proud 1;";
        Check.dueErrorAtMark(cask + "issue ^m from c;" + mess, 3);
        Check.dueErrorAtMark(mess + "issue m from ^c;" + cask, 3);
        Check.dueErrorAtMark(mess + "throw ^c when 1=1;" + cask, 3);
        Check.dueErrorAtMark(cask + "sift c when got ^m=1;" + mess, 3);
        Check.dueErrorAtMark(cask + "sift c when taps ^d=1;" + cask.replace("cask c", "cask d"), 3);
        BiscuitMess x = Check.ship(HEAD);
        Check.write(x, "sift c when 1=1;");
        Check.due("a cask of the list before", x.teach(), 3);
        Check.write(x, "cask c biscuits 1 weevils 1 damp 1;mess m men 0 proud 1;");
        Check.due("a list with an error", x.teach(), 5);
        Check.write(x, "cask d biscuits 1 weevils 1 damp 1;issue m from c;");
        Check.due("a mess of the list with an error", x.teach(), 3);
        Check.due("its place", x.errorAt(), 41);
        for (int i = 0; i < 8; i++) {
            Check.dueError(casks(8) + "sift c" + i + " when biscuits c" + i + "=1;", 0, -1);
        }
        for (int i = 0; i < 6; i++) {
            Check.dueError(messes(6) + casks(1) + "issue m" + i + " from c0 when got m" + i + "=1;", 0, -1);
        }
    }

    private static void errorFour() {
        Check.sentence("Error 4: the name of the 9th cask or of the 7th mess");
        Check.dueError(casks(8), 0, -1);
        Check.dueErrorAtMark(casks(8) + "cask ^d biscuits 1 weevils 1 damp 1;", 4);
        Check.dueErrorAtMark(casks(8) + "cask ^d biscuits 1000 weevils 10000 damp 21;", 4);
        Check.dueErrorAtMark(casks(8) + "cask ^d biscuits 1 weevils 1 damp 1;cask d biscuits 1 weevils 1 damp 1;", 4);
        Check.dueError(messes(6), 0, -1);
        Check.dueErrorAtMark(messes(6) + "mess ^d men 1 proud 1;", 4);
        Check.dueErrorAtMark(messes(6) + "mess ^d men 0 proud 10;", 4);
        Check.dueError(casks(8) + messes(6), 0, -1);
        Check.dueErrorAtMark(casks(8) + messes(6) + "cask ^m0 biscuits 1 weevils 1 damp 1;", 4);
        Check.dueErrorAtMark(casks(8) + messes(6) + "mess ^c0 men 1 proud 1;", 4);
        Check.sentence("the issue of the 25th issue");
        Check.dueError(HEAD + "issue m from c;".repeat(24), 0, -1);
        Check.dueErrorAtMark(HEAD + "issue m from c;".repeat(24) + "^issue m from c;", 4);
        Check.dueErrorAtMark(HEAD + "issue m from c;".repeat(24) + "^issue x from x when got x=1;", 4);
        Check.sentence("or the sift or throw of the 13th of both together");
        for (int sifts = 0; sifts <= 12; sifts++) {
            String text = HEAD + "sift c when 1=1;".repeat(sifts) + "throw c when 1=1;".repeat(12 - sifts);
            Check.dueError(text, 0, -1);
            Check.dueErrorAtMark(text + "^sift c when 1=1;", 4);
            Check.dueErrorAtMark(text + "^throw c when 1=1;", 4);
        }
        String both = HEAD + "issue m from c;".repeat(24) + "sift c when 1=1;".repeat(12);
        Check.dueError(both, 0, -1);
        Check.dueErrorAtMark(both + "^issue m from c;", 4);
        Check.dueErrorAtMark(both + "^throw c when 1=1;", 4);
    }

    private static void errorFive() {
        Check.sentence("Error 5: a number is out of its range: biscuits 0 to 999, weevils 0 to 9999, damp 0 to 20, men 1 to 30, proud 1 to 9");
        dueAmount("cask c biscuits % weevils 0 damp 0;", 0, 0, 999);
        dueAmount("cask c biscuits 0 weevils % damp 0;", 1, 0, 9999);
        dueAmount("cask c biscuits 0 weevils 0 damp %;", 2, 0, 20);
        dueAmount("mess m men % proud 1;", 0, 1, 30);
        dueAmount("mess m men 1 proud %;", 1, 1, 9);
        Check.dueError(HEAD + "sift c when biscuits c=999999 or damp c<999999;", 0, -1);
    }

    private static void dueAmount(String line, int what, int least, int most) {
        for (int number : new int[] {least, least + 1, most - 1, most}) {
            BiscuitMess x = Check.ship(line.replace("%", "" + number));
            Check.due(line + " with " + number, line.startsWith("cask") ? x.cask(0, what) : x.mess(0, what), number);
        }
        for (int number : new int[] {least - 1, most + 1, most + 2, 10 * most, most + 256, most + 65536, 999999}) {
            if (number >= 0) {
                Check.dueErrorAtMark(line.replace("%", "^" + number), 5);
            }
        }
        Check.dueError(line.replace("%", "0".repeat(6 - ("" + most).length()) + most), 0, -1);
    }

    private static void numbered() {
        Check.sentence("Casks and messes are numbered from 0 in the order in which they are told");
        BiscuitMess x = Check.ship("mess z men 20 proud 1;cask z biscuits 10 weevils 1 damp 1;cask b biscuits 11 weevils 1 damp 1;"
                + "mess y men 21 proud 1;cask a biscuits 12 weevils 1 damp 1;mess a men 22 proud 1;");
        BiscuitMess most = Check.ship(messes(3) + casks(8) + messes(6).substring(messes(3).length()));
        for (int i = 0; i < 3; i++) {
            Check.due("biscuits of cask " + i, x.cask(i, 0), i + 10);
            Check.due("men of mess " + i, x.mess(i, 0), i + 20);
        }
        for (int i = 0; i < 8; i++) {
            Check.due("biscuits of cask " + i + " of 8", most.cask(i, 0), i + 10);
        }
        for (int i = 0; i < 6; i++) {
            Check.due("men of mess " + i + " of 6", most.mess(i, 0), i + 20);
        }
    }
}
