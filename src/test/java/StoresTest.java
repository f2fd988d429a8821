/** Promises 1 and 6 to 14: what the stores are, what is done to them by hand, and how a day goes. */
public final class StoresTest {
    public static void main(String[] args) {
        newObject();
        anew();
        count();
        caskAndMess();
        tap();
        setRation();
        sift();
        fill();
        dry();
        inspectors();
        rations();
        gotInTests();
        complaints();
        weevils();
        damp();
        pass();
        Check.end("StoresTest");
    }

    private static final String HEAVY = "cask a biscuits 50 weevils 300 damp 0;mess m men 9 proud 9;mess n men 9 proud 9;issue m from a;";

    /** Runs trials and teaches it anew, more often than there are stores to write it into. */
    private static void anew() {
        BiscuitMess x = new BiscuitMess();
        for (int i = 0; i < 6; i++) {
            Check.write(x, HEAVY);
            Check.due("teach", x.teach(), 0);
            Check.dueCask(x, 0, 50, 300, 0, 1, 0);
            Check.dueMess(x, 0, 9, 9, 0, 0, 0, 0, 0);
            Check.dueMess(x, 1, 9, 9, 0, 0, 0, 0, 0);
            Check.due("eaten", x.count(11), 0);
            Check.due("weevils eaten", x.count(12), 0);
            x.sift(0);
            x.pass(3);
            x.choose(5);
            x.lasts(0);
            Check.dueMess(x, 1, 9, 9, 6, 0, 0, 3, 0);
            Check.due("eaten then", x.count(11) > 0 && x.count(12) > 0 ? 1 : 0, 1);
        }
    }

    private static void newObject() {
        BiscuitMess x = new BiscuitMess();
        for (int what = 0; what < 14; what++) {
            Check.due("new count " + what, x.count(what), what == 1 ? 1 : 0);
        }
        Check.due("new errorAt", x.errorAt(), -1);
        Check.dueIndex("new cask", x, () -> x.cask(0, 0));
        Check.dueIndex("new mess", x, () -> x.mess(0, 0));
        Check.dueIndex("new tap", x, () -> x.tap(0, 0));
        Check.dueIndex("new sift", x, () -> x.sift(0));
        Check.dueIndex("new fill", x, () -> x.fill(0, 1));
        Check.dueIndex("new dry", x, () -> x.dry(0));
        Check.dueIndex("new lasts", x, () -> x.lasts(0));
        Check.dueIndex("new mutiny", x, () -> x.mutiny(0, 0));
        Check.due("new pass", x.pass(5), 0);
        Check.due("day then", x.count(0), 5);
    }

    private static void count() {
        BiscuitMess x = Check.ship("cask a biscuits 10 weevils 30 damp 4;cask b biscuits 20 weevils 5 damp 8;"
                + "cask c biscuits 40 weevils 6 damp 9;mess m men 9 proud 9;mess n men 2 proud 1;"
                + "issue m from a;issue n from b;issue n from c;issue m from b;sift a when day=9;throw c when day=0;");
        Check.write(x, "12345");
        long[] before = {0, 1, 3, 3, 2, 4, 2, 70, 41, 21, 0, 0, 0, 5};
        for (int what = 0; what < 14; what++) {
            Check.due("count " + what, x.count(what), before[what]);
        }
        x.setRation(2);
        x.pass(1);
        // c is overboard; m takes all 10 of a (30 weevils) and 8 of b (2 weevils), n takes 4 of 12 of b (3 * 4 / 12 = 1);
        // m: 32 weevils are more than 9; b: 2 weevils become 2 + 16 / 20 + 1; damp 4 8 9 becomes 5 7 9.
        long[] then = {1, 2, 3, 2, 2, 4, 2, 8, 3, 21, 1, 22, 33, 5};
        for (int what = 0; what < 14; what++) {
            Check.due("then count " + what, x.count(what), then[what]);
        }
        Check.dueIndex("count(-1)", x, () -> x.count(-1));
        Check.dueIndex("count(14)", x, () -> x.count(14));
        Check.dueIndex("count(most)", x, () -> x.count(Integer.MAX_VALUE));
    }

    private static void caskAndMess() {
        BiscuitMess x = Check.ship("mess m men 7 proud 3;cask a biscuits 100 weevils 50 damp 2;mess n men 4 proud 9;"
                + "cask b biscuits 60 weevils 7 damp 3;issue n from a;");
        Check.dueCask(x, 0, 100, 50, 2, 1, 0);
        Check.dueCask(x, 1, 60, 7, 3, 1, 0);
        Check.dueMess(x, 0, 7, 3, 0, 0, 0, 0, 0);
        Check.dueMess(x, 1, 4, 9, 0, 0, 0, 0, 0);
        x.setRation(3);
        Check.due("complaints", x.pass(1), 2);
        // n takes 12 of a with 6 weevils, which are more than 4; m gets nothing.
        Check.dueCask(x, 0, 87, 48, 2, 1, 0);
        Check.dueCask(x, 1, 60, 8, 3, 1, 0);
        Check.dueMess(x, 0, 7, 3, 2, 0, 0, 1, 0);
        Check.dueMess(x, 1, 4, 9, 1, 12, 6, 1, 12);
        x.pass(1);
        // 48 * 12 / 87 = 6 weevils; 75 - 42 / 30 biscuits; 42 + 84 / 20.
        Check.dueCask(x, 0, 74, 46, 2, 1, 0);
        Check.dueCask(x, 1, 60, 9, 3, 1, 0);
        Check.dueMess(x, 1, 4, 9, 2, 12, 6, 2, 24);
        x.setRation(0);
        x.pass(1);
        Check.dueMess(x, 1, 4, 9, 1, 0, 0, 2, 24);
        Check.dueIndex("cask(2, 0)", x, () -> x.cask(2, 0));
        Check.dueIndex("cask(-1, 0)", x, () -> x.cask(-1, 0));
        Check.dueIndex("cask(0, 5)", x, () -> x.cask(0, 5));
        Check.dueIndex("cask(0, -1)", x, () -> x.cask(0, -1));
        Check.dueIndex("mess(2, 0)", x, () -> x.mess(2, 0));
        Check.dueIndex("mess(-1, 0)", x, () -> x.mess(-1, 0));
        Check.dueIndex("mess(0, 7)", x, () -> x.mess(0, 7));
        Check.dueIndex("mess(0, -1)", x, () -> x.mess(0, -1));
    }

    private static void tap() {
        BiscuitMess x = Check.ship("cask a biscuits 40 weevils 99 damp 2;cask b biscuits 0 weevils 99 damp 2;"
                + "cask c biscuits 2 weevils 9999 damp 0;");
        long before = x.digest();
        Check.due("tap(0, 0)", x.tap(0, 0), 0);
        Check.due("tap(0, 1)", x.tap(0, 1), 2);
        Check.due("tap(0, 5)", x.tap(0, 5), 12);
        Check.due("tap(0, 99)", x.tap(0, 99), 245);
        Check.due("tap(1, 50)", x.tap(1, 50), 0);
        Check.due("tap(2, 99)", x.tap(2, 99), 99 * 9999 / 2);
        Check.due("nothing is changed", x.digest(), before);
        Check.dueArgument("tap(0, -1)", x, () -> x.tap(0, -1));
        Check.dueArgument("tap(0, 100)", x, () -> x.tap(0, 100));
        Check.dueIndex("tap(3, 5)", x, () -> x.tap(3, 5));
        Check.dueIndex("tap(-1, 100)", x, () -> x.tap(-1, 100));
    }

    private static void setRation() {
        BiscuitMess x = new BiscuitMess();
        Check.due("setRation(0)", x.setRation(0), 1);
        Check.due("setRation(9)", x.setRation(9), 0);
        Check.due("setRation(4)", x.setRation(4), 9);
        Check.dueArgument("setRation(-1)", x, () -> x.setRation(-1));
        Check.dueArgument("setRation(10)", x, () -> x.setRation(10));
        Check.due("ration", x.count(1), 4);
    }

    private static void sift() {
        BiscuitMess x = Check.ship("cask a biscuits 59 weevils 7 damp 2;cask b biscuits 9 weevils 8 damp 2;"
                + "cask c biscuits 9 weevils 1 damp 2;throw c when day=0;");
        Check.due("sift(2)", x.sift(2), 1);
        Check.dueCask(x, 2, 9, 0, 2, 1, 1);
        Check.due("sift(2) again", x.sift(2), 0);
        Check.due("sift(0)", x.sift(0), 4);
        Check.dueCask(x, 0, 54, 3, 2, 1, 1);
        Check.due("sift(1)", x.sift(1), 4);
        Check.dueCask(x, 1, 9, 4, 2, 1, 1);
        Check.due("sift(0) again", x.sift(0), 2);
        Check.dueCask(x, 0, 49, 1, 2, 1, 2);
        x.pass(1);
        Check.dueCask(x, 2, 0, 0, 2, 0, 2);
        Check.dueState("sift of one overboard", x, () -> x.sift(2));
        Check.dueIndex("sift(3)", x, () -> x.sift(3));
        Check.dueIndex("sift(-1)", x, () -> x.sift(-1));
    }

    private static void fill() {
        BiscuitMess x = Check.ship("cask a biscuits 59 weevils 7 damp 2;cask b biscuits 9 weevils 8 damp 3;throw b when day=0;");
        Check.due("fill(0, 1)", x.fill(0, 1), 60);
        Check.due("fill(0, 939)", x.fill(0, 939), 999);
        Check.due("fill(0, 999)", x.fill(0, 999), 999);
        Check.dueCask(x, 0, 999, 7, 2, 1, 0);
        x.sift(1);
        x.pass(1);
        Check.dueCask(x, 1, 0, 0, 3, 0, 1);
        Check.due("fill(1, 12)", x.fill(1, 12), 12);
        Check.dueCask(x, 1, 12, 0, 3, 1, 1);
        Check.due("casks aboard", x.count(3), 2);
        Check.dueArgument("fill(0, 0)", x, () -> x.fill(0, 0));
        Check.dueArgument("fill(0, -5)", x, () -> x.fill(0, -5));
        Check.dueArgument("fill(0, 1000)", x, () -> x.fill(0, 1000));
        Check.dueIndex("fill(2, 5)", x, () -> x.fill(2, 5));
        Check.dueIndex("fill(-1, 0)", x, () -> x.fill(-1, 0));
    }

    private static void dry() {
        BiscuitMess x = Check.ship("cask a biscuits 59 weevils 7 damp 13;cask b biscuits 9 weevils 8 damp 13;throw b when day=0;");
        Check.due("dry(0)", x.dry(0), 13);
        Check.dueCask(x, 0, 59, 7, 0, 1, 0);
        Check.due("dry(0) again", x.dry(0), 0);
        x.pass(1);
        Check.due("dry of one overboard", x.dry(1), 10);
        Check.dueCask(x, 1, 0, 0, 0, 0, 0);
        Check.dueIndex("dry(2)", x, () -> x.dry(2));
        Check.dueIndex("dry(-1)", x, () -> x.dry(-1));
    }

    private static void inspectors() {
        BiscuitMess x = Check.ship("cask a biscuits 100 weevils 400 damp 0;cask b biscuits 100 weevils 10 damp 0;"
                + "sift a when weevils a>150;sift a when weevils a>150;sift a when weevils a>150;"
                + "throw b when weevils a<200;sift b when 1=1;");
        x.pass(1);
        // 400 to 200 to 100; biscuits 100 to 90 to 81, of which 3 are eaten by weevils.
        Check.dueCask(x, 0, 78, 100, 0, 1, 2);
        Check.dueCask(x, 1, 0, 0, 0, 0, 0);
        x = Check.ship("cask a biscuits 100 weevils 400 damp 0;cask b biscuits 100 weevils 10 damp 0;"
                + "throw b when weevils a<200;sift a when weevils a>150;sift a when weevils a>150;sift b when 1=1;");
        x.pass(1);
        Check.dueCask(x, 1, 90, 5, 0, 1, 1);
        x = Check.ship("cask a biscuits 100 weevils 0 damp 0;sift a when day=1 and ration=4;");
        x.setRation(4);
        x.pass(1);
        Check.due("not on day 0", x.cask(0, 4), 0);
        x.pass(1);
        Check.due("on day 1", x.cask(0, 4), 1);
        x.pass(5);
        Check.due("not later", x.cask(0, 4), 1);
    }

    private static void rations() {
        String casks = "cask a biscuits 10 weevils 9 damp 0;cask b biscuits 100 weevils 50 damp 0;cask z biscuits 0 weevils 9 damp 0;";
        BiscuitMess x = Check.ship(casks + "mess m men 12 proud 1;mess n men 8 proud 1;"
                + "issue n from a;issue m from z;issue m from a;issue m from b;issue n from b;issue m from b;");
        Check.due("all is got", x.pass(1), 0);
        // m: 10 of a with all 9, 2 of b with 1; n: 8 of 98 of b with 49 * 8 / 98 = 4.
        Check.dueMess(x, 0, 12, 1, 0, 12, 10, 0, 12);
        Check.dueMess(x, 1, 8, 1, 0, 8, 4, 0, 8);
        Check.dueCask(x, 0, 0, 0, 0, 1, 0);
        Check.dueCask(x, 1, 89, 45, 0, 1, 0);
        Check.dueCask(x, 2, 0, 0, 0, 1, 0);
        x = Check.ship(casks + "mess m men 12 proud 1;issue m from a when biscuits b>99;issue m from b when biscuits a<10;"
                + "issue m from a when got m>11;");
        Check.due("tests between issues", x.pass(1), 0);
        Check.dueMess(x, 0, 12, 1, 0, 12, 10, 0, 12);
        x.fill(0, 5);
        Check.due("tests that do not hold", x.pass(1), 0);
        Check.dueCask(x, 0, 5, 0, 0, 1, 0);
        x = Check.ship(casks + "throw a when 1=1;mess m men 12 proud 1;issue m from a;");
        Check.due("overboard", x.pass(1), 1);
        Check.dueMess(x, 0, 12, 1, 2, 0, 0, 1, 0);
        x = Check.ship(casks + "mess m men 12 proud 1;issue m from b when [1=1];issue m from a when 1=1 and not 1=1;");
        x.setRation(0);
        Check.due("no ration", x.pass(3), 0);
        Check.dueMess(x, 0, 12, 1, 0, 0, 0, 0, 0);
        x.setRation(9);
        x.pass(1);
        Check.dueMess(x, 0, 12, 1, 2, 97, 50, 1, 97);
    }

    /** got is that of the day before till the own turn, and counts from 0 from then on. */
    private static void gotInTests() {
        String casks = "cask a biscuits 500 weevils 0 damp 0;cask b biscuits 500 weevils 0 damp 0;cask c biscuits 6 weevils 0 damp 0;";
        String messes = "mess m men 10 proud 5;mess n men 4 proud 5;";
        BiscuitMess x = Check.ship(casks + messes + "issue n from a when got m=10;issue m from b when got n=4 and got m=0;"
                + "issue m from c when got n=0;issue m from a when got m=6;");
        Check.due("day 0", x.pass(1), 0);
        Check.dueMess(x, 0, 10, 5, 0, 10, 0, 0, 10);
        Check.dueMess(x, 1, 4, 5, 0, 4, 0, 0, 4);
        Check.due("c is empty", x.cask(2, 0), 0);
        Check.due("b is full", x.cask(1, 0), 500);
        Check.due("day 1", x.pass(1), 0);
        Check.due("b has fed m", x.cask(1, 0), 490);
        Check.due("a has fed m once, and n twice", x.cask(0, 0), 488);
        x = Check.ship(casks + messes + "sift a when got m=10;issue m from b;");
        x.pass(1);
        Check.due("sifted on day 0", x.cask(0, 4), 0);
        x.pass(1);
        Check.due("sifted on day 1", x.cask(0, 4), 1);
        x = Check.ship(casks + messes + "sift a when temper n=2;issue m from b;issue m from a when temper n>0;");
        x.pass(2);
        Check.due("sifted by temper", x.cask(0, 4), 1);
        Check.due("temper", x.mess(1, 2), 4);
    }

    private static void complaints() {
        String cask = "cask a biscuits 100 weevils 100 damp 0;";
        BiscuitMess x = Check.ship(cask + "mess m men 10 proud 9;mess n men 10 proud 8;issue m from a;issue n from a;");
        Check.due("not more than 10", x.pass(1), 0);
        x = Check.ship(cask + "mess m men 10 proud 9;mess n men 20 proud 9;issue m from a;issue n from a;");
        x.setRation(2);
        // 20 of m with 20 weevils are too many for 10; 40 of n with 40 for 20.
        Check.due("more than 10", x.pass(1), 2);
        Check.dueMess(x, 0, 10, 9, 1, 20, 20, 1, 20);
        Check.dueMess(x, 1, 20, 9, 1, 40, 40, 1, 40);
        x.setRation(9);
        // 39 biscuits are left, and 40 weevils.
        Check.due("both", x.pass(1), 3);
        Check.dueMess(x, 0, 10, 9, 4, 39, 40, 3, 59);
        Check.dueMess(x, 1, 20, 9, 3, 0, 0, 2, 40);
        Check.due("hungry days", x.pass(60), 120);
        Check.dueMess(x, 0, 10, 9, 99, 0, 0, 63, 59);
        Check.dueMess(x, 1, 20, 9, 99, 0, 0, 62, 40);
        x.setRation(0);
        Check.due("no ration", x.pass(90), 0);
        Check.dueMess(x, 0, 10, 9, 9, 0, 0, 63, 59);
        x.pass(10);
        Check.dueMess(x, 0, 10, 9, 0, 0, 0, 63, 59);
    }

    private static void weevils() {
        // Eaten: a thirtieth; bred: weevils * damp / 20, and 1 more from a damp of 6 on; at most 10 a biscuit.
        int[][] rows = {
            {100, 29, 0, 100, 29}, {100, 30, 0, 99, 30}, {100, 95, 5, 97, 118}, {100, 95, 6, 97, 124}, {100, 0, 5, 100, 0},
            {100, 0, 6, 100, 1}, {100, 900, 20, 70, 700}, {100, 400, 20, 87, 801}, {10, 400, 0, 0, 0}, {10, 270, 0, 1, 10},
            {10, 299, 3, 1, 10}, {0, 999, 20, 0, 0}, {0, 0, 20, 0, 0}, {999, 9999, 20, 666, 6660}, {1, 9, 2, 1, 9}, {1, 9, 3, 1, 10},
            {1, 10, 2, 1, 10},
        };
        for (int[] row : rows) {
            BiscuitMess x = Check.ship("cask a biscuits " + row[0] + " weevils " + row[1] + " damp " + row[2] + ";");
            x.pass(1);
            Check.dueCask(x, 0, row[3], row[4], row[2], 1, 0);
        }
    }

    private static void damp() {
        dueDamp("8 0", "6 2", "");
        dueDamp("0 8", "2 6", "");
        dueDamp("3 0", "3 0", "");
        dueDamp("0 3", "0 3", "");
        dueDamp("0 7", "1 6", "");
        dueDamp("20 0 0 0", "15 4 1 0", "");
        dueDamp("0 0 0 20", "0 0 5 15", "");
        dueDamp("20 0 20", "15 8 17", "");
        dueDamp("5", "5", "");
        dueDamp("20 0 20", "15 8 17", "throw c1 when 1=1;");
        dueDamp("20 0 0 0 0 0 0 20", "15 4 1 0 0 0 5 15", "");
    }

    private static void dueDamp(String before, String then, String lines) {
        String[] damp = before.split(" ");
        StringBuilder text = new StringBuilder();
        for (int i = 0; i < damp.length; i++) {
            text.append("cask c").append(i).append(" biscuits 100 weevils 0 damp ").append(damp[i]).append(";");
        }
        BiscuitMess x = Check.ship(text + lines);
        x.pass(1);
        String[] due = then.split(" ");
        for (int i = 0; i < due.length; i++) {
            Check.due("damp " + i + " behind " + before, x.cask(i, 2), Integer.parseInt(due[i]));
        }
    }

    private static void pass() {
        BiscuitMess x = Check.ship("mess m men 3 proud 3;");
        Check.due("pass(1)", x.pass(1), 1);
        Check.due("pass(90)", x.pass(90), 90);
        Check.due("day", x.count(0), 91);
        Check.due("complaints in all", x.count(10), 91);
        Check.dueArgument("pass(0)", x, () -> x.pass(0));
        Check.dueArgument("pass(-1)", x, () -> x.pass(-1));
        Check.dueArgument("pass(91)", x, () -> x.pass(91));
    }
}
