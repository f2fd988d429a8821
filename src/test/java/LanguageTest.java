/** Promises 2 to 5: the tape, and what is a list and what is not. */
public final class LanguageTest {
    private static final String HEAD = "cask c biscuits 100 weevils 40 damp 8;mess m men 5 proud 4;";

    public static void main(String[] args) {
        feed();
        trim();
        teachPutsAllInPlace();
        teachAgainAndAgain();
        teachWithErrorLeavesAll();
        tokens();
        grammar();
        depth();
        tooManyTokens();
        names();
        tooMuch();
        ranges();
        order();
        reckoning();
        Check.end("LanguageTest");
    }

    private static void feed() {
        BiscuitMess x = new BiscuitMess();
        Check.due("empty tape", x.count(13), 0);
        for (int i = 1; i <= 100; i++) {
            Check.due("feed " + i, x.feed(0x20202020, 0x20202020, 0x20202020, 0x20202020, 0x20202020), 20 * i);
        }
        Check.dueState("feed beyond 2000", x, () -> x.feed(0, 0, 0, 0, 0));
        Check.due("trim to 1981", x.trim(1981), 1981);
        Check.dueState("feed of 20 behind 1981", x, () -> x.feed(0, 0, 0, 0, 0));
        Check.due("trim to 1980", x.trim(1980), 1980);
        Check.due("feed of 20 behind 1980", x.feed(0x3b202020, 0, 0, 0, 0), 2000);
        Check.due("teach of the full tape", x.teach(), 1);
        Check.due("the ; behind 1980 blanks", x.errorAt(), 1980);
        byte[] bytes = new byte[20];
        for (int i = 0; i < 20; i++) {
            java.util.Arrays.fill(bytes, (byte) ' ');
            bytes[i] = (byte) 200;
            Check.write(x, bytes);
            Check.due("teach with one odd byte", x.teach(), 1);
            Check.due("the place of the odd byte", x.errorAt(), i);
        }
    }

    private static void trim() {
        BiscuitMess x = new BiscuitMess();
        Check.due("trim of nothing", x.trim(0), 0);
        Check.dueArgument("trim(1) of nothing", x, () -> x.trim(1));
        x.feed(1, 2, 3, 4, 5);
        Check.dueArgument("trim(-1)", x, () -> x.trim(-1));
        Check.dueArgument("trim(21)", x, () -> x.trim(21));
        Check.dueArgument("trim(least)", x, () -> x.trim(Integer.MIN_VALUE));
        Check.due("trim(20)", x.trim(20), 20);
        Check.due("trim(7)", x.trim(7), 7);
        Check.dueArgument("trim(8) of 7", x, () -> x.trim(8));
        Check.due("feed behind a trim", x.feed(0, 0, 0, 0, 0), 27);
        Check.due("trim(0)", x.trim(0), 0);
        Check.due("bytes then", x.count(13), 0);
    }

    private static void teachPutsAllInPlace() {
        BiscuitMess x = Check.ship(HEAD + "issue m from c;sift c when day=1;");
        x.setRation(3);
        x.pass(9);
        Check.due("the tape behind teach", x.count(13), 0);
        Check.due("something was eaten", x.count(11) > 0 && x.count(12) > 0 && x.count(10) > 0 ? 1 : 0, 1);
        Check.due("sifted", x.cask(0, 4), 1);
        Check.write(x, HEAD);
        Check.due("teach anew", x.teach(), 0);
        long[] due = {9, 3, 1, 1, 1, 0, 0, 100, 40, 8, 0, 0, 0, 0};
        for (int what = 0; what < 14; what++) {
            Check.due("anew count " + what, x.count(what), due[what]);
        }
        for (int what = 2; what < 7; what++) {
            Check.due("anew mess " + what, x.mess(0, what), 0);
        }
        Check.due("anew cask 4", x.cask(0, 4), 0);
        Check.due("teach of an empty tape", x.teach(), 0);
        Check.due("no casks", x.count(2) + x.count(4), 0);
        Check.due("day stays", x.count(0), 9);
        Check.write(x, HEAD + "throw c when 1=1;");
        x.teach();
        x.pass(1);
        Check.due("thrown", x.cask(0, 3), 0);
        Check.write(x, HEAD);
        x.teach();
        Check.due("aboard anew", x.cask(0, 3), 1);
    }

    /** What was told, and what came of it, must not be found in a later list. */
    private static void teachAgainAndAgain() {
        BiscuitMess x = new BiscuitMess();
        long first = 0;
        for (int i = 0; i < 8; i++) {
            Check.write(x, HEAD + "issue m from c when 1" + Check.repeat("+1", 99) + "=100;"
                    + "sift c when min(1,min(2,min(3,min(4,min(5,min(6,7))))))=1 and day-day=0;throw c when biscuits c=0 or taps c=0;");
            Check.due("teach again", x.teach(), 0);
            Check.due("issues", x.count(5), 1);
            Check.due("lines of sift and throw", x.count(6), 2);
            x.setRation(0);
            x.pass(90);
            x.setRation(3);
            x.pass(90);
            long now = 31 * x.count(10) + x.count(11) + 1000L * x.mess(0, 2) + 31L * x.mess(0, 5) + 77L * x.cask(0, 4) + x.cask(0, 3);
            Check.due("behind the same list", now, i == 0 ? now : first);
            first = now;
            x.foresee(90, 0);
            for (int wrong = 0; wrong < 2; wrong++) {
                Check.write(x, HEAD + "issue m from c when 1=1;sift c when 1=1;sift c when 1=1;issue m from x;");
                Check.due("teach with an error between", x.teach(), 3);
            }
        }
    }

    private static void teachWithErrorLeavesAll() {
        BiscuitMess x = Check.ship(HEAD + "issue m from c when day < 5;sift c when day=3;");
        x.setRation(2);
        x.pass(2);
        String[] wrong = {HEAD + "issue m from d;", HEAD + HEAD, "cask z biscuits 1000 weevils 1 damp 1;", HEAD + "x"};
        int[] errors = {3, 2, 5, 1};
        int[] places = {HEAD.length() + 13, HEAD.length() + 5, 16, HEAD.length()};
        for (int i = 0; i < wrong.length; i++) {
            long before = x.digest();
            long later = x.foresee(40, 2);
            Check.write(x, wrong[i]);
            Check.due("wrong " + wrong[i], x.teach(), errors[i]);
            Check.due("its place", x.errorAt(), places[i]);
            Check.due("nothing is changed", x.digest(), before);
            Check.due("nor later", x.foresee(40, 2), later);
        }
        x.teach();
        Check.due("errorAt behind a teach without error", x.errorAt(), -1);
        Check.due("errorAt of a new object", new BiscuitMess().errorAt(), -1);
    }

    private static void tokens() {
        Check.dueError("", 0, -1);
        Check.dueError(" \n \n", 0, -1);
        Check.dueError(" \n cask\nc \n biscuits 1 weevils\n2 damp 3 \n;\n ", 0, -1);
        Check.dueError("cask c biscuits 1weevils 2damp 3;", 0, -1);
        Check.dueError("cask a123456789 biscuits 1 weevils 2 damp 3;", 0, -1);
        Check.dueErrorAtMark("cask ^a1234567890 biscuits 1 weevils 2 damp 3;", 1);
        Check.dueError("cask c biscuits 000999 weevils 009999 damp 000020;", 0, -1);
        Check.dueErrorAtMark("cask c biscuits ^0000001 weevils 2 damp 3;", 1);
        Check.dueErrorAtMark("^caskc biscuits 1 weevils 2 damp 3;", 1);
        Check.dueErrorAtMark("cask c ^biscuits1 weevils 2 damp 3;", 1);
        Check.dueErrorAtMark("cask ^1c biscuits 1 weevils 2 damp 3;", 1);
        Check.dueErrorAtMark("^Cask c biscuits 1 weevils 2 damp 3;", 1);
        Check.dueErrorAtMark("cask c^\t biscuits 1 weevils 2 damp 3;", 1);
        Check.dueErrorAtMark("cask c^\r\n biscuits 1 weevils 2 damp 3;", 1);
        Check.dueErrorAtMark("cask c^C biscuits 1 weevils 2 damp 3;", 1);
        Check.dueErrorAtMark("cask c ^_ biscuits 1 weevils 2 damp 3;", 1);
        for (int sign = 0; sign < 256; sign++) {
            boolean blank = sign == 32 || sign == 10;
            Check.dueError(HEAD + (char) sign, blank ? 0 : 1, blank ? -1 : HEAD.length());
            if (!blank && (sign < 'a' || sign > 'z')) {
                Check.dueError("cask " + (char) sign, 1, 5);
            }
        }
        Check.dueError(HEAD + "sift c when 1<=2;sift c when 1>=2;", 0, -1);
        Check.dueErrorAtMark(HEAD + "sift c when 1< ^=2;", 1);
        Check.dueErrorAtMark(HEAD + "sift c when 1=^<2;", 1);
        Check.dueErrorAtMark(HEAD + "sift c when 1=^=2;", 1);
        Check.dueErrorAtMark(HEAD + "sift c when 1<^>2;", 1);
        Check.dueErrorAtMark(HEAD + "sift c when 1<=^=2;", 1);
        Check.dueError(HEAD + "issue m from c when got m<men m*ration;", 0, -1);
    }

    private static void grammar() {
        String[] wrong = {
            "^;", "^c;", "^1;", "^day;", "cask^", "cask ^;", "cask ^day biscuits 1 weevils 1 damp 1;",
            "cask c^", "cask c biscuits^", "cask c biscuits 5^", "cask c biscuits 5 weevils 5 damp 5^",
            "cask c biscuits 5 weevils 5 damp 5  \n ^", "cask c biscuits 5 weevils 5 damp 5^,",
            "cask c ^weevils 5 biscuits 5 damp 5;", "cask c biscuits ^-5 weevils 5 damp 5;",
            "cask c biscuits 5 ^damp 5;", "cask c biscuits 5 weevils 5 ^;", "cask c biscuits 5 weevils ^x damp 5;",
            "cask c biscuits ^(5) weevils 5 damp 5;", "cask c biscuits 5 weevils 5 damp ^damp 5;",
            "mess^", "mess ^men men 5 proud 5;", "mess m ^proud 5 men 5;", "mess m men ^;", "mess m men 5 ^weevils 5;",
            "mess m men 5 proud 5 ^mess n men 5 proud 5;", "cask c biscuits 1 weevils 1 damp 1;^;",
        };
        for (String text : wrong) {
            Check.dueErrorAtMark(text, 1);
        }
        String[] wrongBehindHead = {
            "issue^", "issue ^from c;", "issue m ^c;", "issue m ^;", "issue ^;", "issue m from ^;", "sift c when 1*^<2;", "sift c when 2/^=2;",
            "sift c when 1+^<2;", "sift c when 1<2*^;", "sift c when 1<2-^;", "issue m from c^", "issue m from c ^1<2;",
            "issue m from c when^", "issue m from c when ^;", "issue m from c when 1^;", "issue m from c when 1 <^;",
            "issue m from c when 1<2^)", "issue m from c when 1<2^]", "issue m from c ^or 1<2;",
            "sift c^;", "sift ^when 1<2;", "throw c^;", "throw ^;", "sift c when ^or 1<2;", "sift c when 1<2 or^;",
            "sift c when 1<2 ^not 1<2;", "sift c when not^;", "sift c when not ^and 1<2;",
            "sift c when 1<2^<3;", "sift c when [1<2^;", "sift c when [1<2^);", "sift c when [1^];", "sift c when ^];",
            "sift c when (1^<2);", "sift c when (1+^)<2;", "sift c when ^)<2;",
            "sift c when ^+1<2;", "sift c when 1 ^1<2;", "sift c when 1+^+1<2;", "sift c when 1*^*1<2;",
            "sift c when 1-^/1<2;", "sift c when 1^,2<3;", "sift c when min ^1<2;", "sift c when min(1^)<2;",
            "sift c when min(1,2^,3)<2;", "sift c when max(^,2)<2;", "sift c when max(1,^)<2;", "sift c when max(1 ^2)<2;",
            "sift c when biscuits ^1<2;", "sift c when biscuits^<2;", "sift c when men ^<2;", "sift c when got ^day<2;",
            "sift c when ^proud m<2;", "sift c when ^c<2;", "sift c when ^cask<2;", "sift c when ^when<2;",
            "sift c when day ^c<2;", "sift c when ration ^m<2;", "sift c when 1<^[2];",
            "sift c when -^;", "sift c when - ^<2;", "sift c when 1<2 and^;", "sift c when 1<2 and ^and 1<2;",
            "issue m from c when 1<2 ^when 1<2;", "issue m from c^,c;", "issue m ^, m from c;", "^when 1<2;", "^from c;",
        };
        for (String text : wrongBehindHead) {
            Check.dueErrorAtMark(HEAD + text, 1);
        }
        String[] right = {
            "issue m from c;", "issue m from c when 1<2;", "sift c when 1<2;", "throw c when 1<2;",
            "sift c when not not 1<2 and [1<2 or not [1<2]];", "sift c when (1)+((2))*-3/--4<-(5);",
            "sift c when min(1,max(2+3,4))-min((1),(2))=max(1,2);",
            "sift c when day+ration+biscuits c+weevils c+damp c+taps c+men m+temper m+got m>999999;",
            "sift c when 1<2 or 1>2 or 1=2 and 1<=2 and 1>=2;",
        };
        for (String text : right) {
            Check.dueError(HEAD + text, 0, -1);
        }
    }

    private static void depth() {
        String sift = HEAD + "sift c when ";
        Check.dueError(sift + "((((((((1))))))))<2;", 0, -1);
        Check.dueErrorAtMark(sift + "((((((((^(1)))))))))<2;", 1);
        Check.dueError(sift + "1<((((((((1))))))));", 0, -1);
        Check.dueError(HEAD + "issue m from c when 1<((((((((1))))))));", 0, -1);
        Check.dueError(HEAD + "issue m from c when [[[[[[[[1<2]]]]]]]];throw c when [[[[[[[[1<2]]]]]]]];", 0, -1);
        Check.dueErrorAtMark(HEAD + "issue m from c when [[[[[[[[^[1<2]]]]]]]]];", 1);
        Check.dueErrorAtMark(HEAD + "throw c when [[[[[[[[^[1<2]]]]]]]]];", 1);
        Check.dueError(sift + "[[[[[[[min(-1,2)<3]]]]]]];", 1, sift.length() + 11);
        Check.dueError(sift + "[[[[[[min(-1,-2)<max((1),(2))]]]]]];", 0, -1);
        Check.dueErrorAtMark(sift + "[[[[[[min(-1,-^-2)<3]]]]]];", 1);
        Check.dueErrorAtMark(sift + "[[[[[[max(-^-1,-2)<3]]]]]];", 1);
        Check.dueErrorAtMark(sift + "1<((((((((^(", 1);
        Check.dueError(sift + "[[[[[[[[1<2]]]]]]]];", 0, -1);
        Check.dueErrorAtMark(sift + "[[[[[[[[^[1<2]]]]]]]]];", 1);
        Check.dueError(sift + Check.repeat("not ", 8) + "1<2;", 0, -1);
        Check.dueErrorAtMark(sift + Check.repeat("not ", 8) + "^not 1<2;", 1);
        Check.dueError(sift + "--------1<2;", 0, -1);
        Check.dueErrorAtMark(sift + "--------^-1<2;", 1);
        Check.dueError(sift + "0---------1<2;", 0, -1);
        Check.dueError(sift + "[[not not (-(-1))<2]];", 0, -1);
        Check.dueErrorAtMark(sift + "[[not not (-(-^(1)))<2]];", 1);
        Check.dueErrorAtMark(sift + "[[not not ((-(^-1)))<2]];", 1);
        Check.dueErrorAtMark(sift + "[[[[[[[[min^(1,2)<3]]]]]]]];", 1);
        Check.dueError(sift + "[[[[[[[min(1,2)<3]]]]]]];", 0, -1);
        Check.dueErrorAtMark(sift + "[[[[[[[min(1,^-2)<3]]]]]]];", 1);
        Check.dueErrorAtMark(sift + "[[[[[[[[^not 1<2]]]]]]]];", 1);
        Check.dueErrorAtMark(sift + "not not not not not not not not ^[1<2];", 1);
        Check.dueError(sift + "[not 1<2] and " + Check.repeat("[", 8) + "1<2" + Check.repeat("]", 8)
                + " and not " + Check.repeat("-", 7) + "1<" + Check.repeat("-", 7) + "1;", 0, -1);
        Check.dueErrorAtMark(sift + "not " + Check.repeat("-", 7) + "^-1<1;", 1);
        Check.dueError(sift + "-1-1<2 and --------1+--------1<2 and --------1*--------1<3;", 0, -1);
    }

    private static void tooManyTokens() {
        // HEAD has 16 tokens, "sift c when -1" has 5, and "=1;" has 3; each "+1" has 2.
        String sift = HEAD + "sift c when -1";
        Check.dueError(sift + Check.repeat("+1", 188) + "=1; \n", 0, -1);
        Check.dueErrorAtMark(sift + Check.repeat("+1", 188) + "=1; ^sift c when 1=1;", 1);
        Check.dueErrorAtMark(sift + Check.repeat("+1", 188) + "=1; ^?", 1);
        Check.dueErrorAtMark(sift + Check.repeat("+1", 189) + "=^1;", 1);
        Check.dueErrorAtMark(sift + Check.repeat("+1", 189) + "=  ^", 1);
        Check.dueErrorAtMark(sift + Check.repeat("+1", 189) + " ^;=1;", 1);
        Check.dueErrorAtMark(Check.repeat("cask c biscuits 1 weevils 1 damp 1;", 44) + "cask c biscuits 1^", 1);
        Check.dueErrorAtMark(Check.repeat("cask c biscuits 1 weevils 1 damp 1;", 44) + "cask c biscuits 1 ^weevils 1 damp 1;", 1);
    }

    private static void names() {
        Check.dueErrorAtMark(HEAD + "cask ^c biscuits 1 weevils 1 damp 1;", 2);
        Check.dueErrorAtMark(HEAD + "mess ^m men 1 proud 1;", 2);
        Check.dueError(HEAD + "cask m biscuits 1 weevils 1 damp 1;mess c men 1 proud 1;issue c from m;", 0, -1);
        Check.dueErrorAtMark(HEAD + "issue ^c from c;", 3);
        Check.dueErrorAtMark(HEAD + "issue m from ^m;", 3);
        Check.dueErrorAtMark(HEAD + "sift ^m when 1<2;", 3);
        Check.dueErrorAtMark(HEAD + "throw ^x when 1<2;", 3);
        for (String of : new String[] {"biscuits", "weevils", "damp", "taps"}) {
            Check.dueError(HEAD + "sift c when " + of + " c<2;", 0, -1);
            Check.dueErrorAtMark(HEAD + "sift c when " + of + " ^m<2;", 3);
        }
        for (String of : new String[] {"men", "temper", "got"}) {
            Check.dueError(HEAD + "sift c when " + of + " m<2;", 0, -1);
            Check.dueErrorAtMark(HEAD + "sift c when 1<2 or " + of + " ^c<2;", 3);
        }
        Check.dueErrorAtMark("cask c biscuits 1 weevils 1 damp 1;issue ^m from c;mess m men 1 proud 1;", 3);
        Check.dueErrorAtMark("mess m men 1 proud 1;issue m from ^c;cask c biscuits 1 weevils 1 damp 1;", 3);
        Check.dueErrorAtMark(HEAD + "sift ^cc when 1<2;", 3);
        Check.dueErrorAtMark("cask ab biscuits 1 weevils 1 damp 1;sift ^ba when 1<2;", 3);
        Check.dueErrorAtMark("cask abcdefghij biscuits 1 weevils 1 damp 1;sift ^abcdefghi when 1<2;", 3);
        Check.dueErrorAtMark("cask abcdefghij biscuits 1 weevils 1 damp 1;sift ^abcdefghi0 when 1<2;", 3);
        Check.dueError("cask abcdefghij biscuits 1 weevils 1 damp 1;sift abcdefghij when 1<2;", 0, -1);
        Check.dueErrorAtMark("cask z biscuits 1 weevils 1 damp 1;sift ^a0 when 1<2;", 3);
    }

    private static void tooMuch() {
        StringBuilder casks = new StringBuilder();
        for (int i = 0; i < 8; i++) {
            casks.append("cask c").append(i).append(" biscuits 1 weevils 1 damp 1;");
        }
        Check.dueError(casks.toString(), 0, -1);
        Check.dueErrorAtMark(casks + "cask ^c8 biscuits 1 weevils 1 damp 1;", 4);
        Check.dueErrorAtMark(casks + "cask ^c3 biscuits 1 weevils 1 damp 1;", 2);
        Check.dueErrorAtMark(casks + "cask ^c8 biscuits 1000 weevils 1 damp 1;", 4);
        StringBuilder messes = new StringBuilder();
        for (int i = 0; i < 6; i++) {
            messes.append("mess m").append(i).append(" men 1 proud 1;");
        }
        Check.dueError(messes.toString(), 0, -1);
        Check.dueErrorAtMark(messes + "mess ^m6 men 1 proud 1;", 4);
        Check.dueErrorAtMark(messes + "mess ^m5 men 1 proud 1;", 2);
        Check.dueError(messes + casks.toString(), 0, -1);
        String issues = HEAD + Check.repeat("issue m from c;", 24);
        Check.dueError(issues, 0, -1);
        Check.dueErrorAtMark(issues + "^issue m from c;", 4);
        Check.dueErrorAtMark(issues + "^issue x from c;", 4);
        String six = HEAD + Check.repeat("sift c when 1<2;throw c when 2<1;", 6);
        Check.dueError(six, 0, -1);
        Check.dueErrorAtMark(six + "^sift c when 1<2;", 4);
        Check.dueErrorAtMark(six + "^throw c when 1<2;", 4);
        Check.dueErrorAtMark(HEAD + Check.repeat("sift c when 1<2;", 12) + "^throw x when 1<2;", 4);
        Check.dueError(six + Check.repeat("issue m from c;", 24), 0, -1);
        Check.due("sift and throw lines", Check.ship(six).count(6), 12);
        Check.due("issues", Check.ship(issues).count(5), 24);
    }

    private static void ranges() {
        Check.dueError("cask c biscuits 0 weevils 0 damp 0;cask d biscuits 999 weevils 9999 damp 20;", 0, -1);
        Check.dueErrorAtMark("cask c biscuits ^1000 weevils 0 damp 0;", 5);
        Check.dueErrorAtMark("cask c biscuits 999 weevils ^10000 damp 0;", 5);
        Check.dueErrorAtMark("cask c biscuits 999 weevils 0 damp ^21;", 5);
        Check.dueError("mess c men 1 proud 1;mess d men 30 proud 9;", 0, -1);
        Check.dueErrorAtMark("mess c men ^0 proud 1;", 5);
        Check.dueErrorAtMark("mess c men ^31 proud 1;", 5);
        Check.dueErrorAtMark("mess c men 1 proud ^0;", 5);
        Check.dueErrorAtMark("mess c men 1 proud ^10;", 5);
        Check.dueError(HEAD + "sift c when 999999=0;", 0, -1);
    }

    private static void order() {
        Check.dueErrorAtMark("cask c biscuits 1000 weevils 0 damp 0;cask c biscuits 1 weevils 1 damp 1;^?", 1);
        Check.dueErrorAtMark("cask c biscuits ^1000 weevils 0 damp 0;cask c biscuits 1 weevils 1 damp 1;", 5);
        Check.dueErrorAtMark(HEAD + "cask ^c biscuits 1000 weevils 0 damp 0;", 2);
        Check.dueErrorAtMark(HEAD + "issue ^x from y when biscuits z=1;mess m men 1 proud 1;", 3);
        Check.dueErrorAtMark("issue ^m from c;" + HEAD, 3);
        Check.dueErrorAtMark(HEAD + "sift c when biscuits ^z=1 and men y=1;cask d biscuits 1000 weevils 1 damp 1;", 3);
        Check.dueErrorAtMark("mess m men ^0 proud 0;", 5);
        Check.dueErrorAtMark(HEAD + "issue x from c when 1<^;", 1);
    }

    /** Each of these tests has to hold on day 0; its contrary must not. */
    private static void reckoning() {
        String[] holds = {
            "1+2*3=7", "(1+2)*3=9", "7-2-3=2", "7/2=3", "-7/2=-3", "7/-2=-3", "7/0=0", "0/0=0", "2*7/4=3", "7/4*2=2",
            "12/2/3=2", "2-3*4+5=-5", "-2*-3=6", "--5=5", "min(3,2)=2", "min(-3,2)=-3", "max(3,2)=3", "max(-3,2)=2",
            "min(4,4)+max(4,4)=8", "1-2=-1", "-1-1=-2", "3<4", "4>3", "4=4", "3<=4", "4<=4", "4>=3", "4>=4", "-1<0",
            "not 4<4", "not 4>4", "not 3>=4", "not 4<=3", "not 3=4", "not not 1=1", "1=1 and 2=2", "1=1 or 1=2", "1=2 or 1=1",
            "1=1 or 1=1 and 1=2", "1=2 and 1=2 or 1=1", "1=2 and 1=1 or 1=1", "not [1=1 and 1=2]", "not 1=2 and 1=1",
            "not [not 1=1 or 1=2]", "not 1=2 or 1=1", "not [[1=1 or 1=1] and 1=2]", "not 1=1 or 1=1",
            "65536*65536=0", "65536*32768<0", "65536*32768-1>0", "-(65536*32768)=65536*32768",
            "65536*32768/-1=65536*32768", "65536*32767+65535+65536<0", "46341*46341<0",
            "day=0", "ration=1", "biscuits c=100", "weevils c=40", "damp c=8", "taps c=2", "taps d=9", "men m=5", "temper m=0", "got m=0",
            "-men m+6=1", "-(men m+6)=-11", "2-(3-4)=3", "min(1,2)*3=3", "1<2 and 2<3 and 3<4", "1=2 or 2=3 or 4=4",
        };
        String more = HEAD + "cask d biscuits 100 weevils 199 damp 0;";
        for (String test : holds) {
            BiscuitMess x = Check.ship(more + "throw c when " + test + ";");
            x.pass(1);
            Check.due("aboard behind throw when " + test, x.cask(0, 3), 0);
            x = Check.ship(more + "throw c when not [" + test + "];");
            x.pass(1);
            Check.due("aboard behind throw when not " + test, x.cask(0, 3), 1);
        }
    }
}
