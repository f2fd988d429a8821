/** Each sentence of "2. The stores" that names a boundary: a test of its own. */
public final class EdgeStoresTest {
    public static void main(String[] args) {
        caskAtFirst();
        overboard();
        messAtFirst();
        rationBounds();
        tapping();
        tapsInTests();
        sifting();
        ordersInOrder();
        ordersOnlyAboard();
        testsOfOrdersNow();
        messesByNumbers();
        asked();
        tillItHasAll();
        asFarAsThereAreSome();
        weevilsWithThem();
        testsOfIssuesNow();
        hungry();
        disgusted();
        bothComplaints();
        better();
        atMost99();
        eatenByWeevils();
        bred();
        tenForEachBiscuit();
        dampOfPairs();
        dampBehindWeevils();
        dayIsGreater();
        gotInTests();
        valuesInTests();
        fullShip();
        Check.end("EdgeStoresTest");
    }

    private static String cask(String name, int biscuits, int weevils, int damp) {
        return "cask " + name + " biscuits " + biscuits + " weevils " + weevils + " damp " + damp + ";";
    }

    private static String mess(String name, int men, int proud) {
        return "mess " + name + " men " + men + " proud " + proud + ";";
    }

    /** The ship behind so many days. */
    private static BiscuitMess behind(int days, int ration, String text) {
        BiscuitMess x = Check.ship(text);
        x.setRation(ration);
        x.pass(days);
        return x;
    }

    // ---- casks and messes

    private static void caskAtFirst() {
        Check.sentence("A cask is aboard (at first), or overboard");
        BiscuitMess x = Check.ship(cask("a", 0, 0, 0) + cask("b", 999, 9999, 20));
        Check.dueCask(x, 0, 0, 0, 0, 1, 0);
        Check.dueCask(x, 1, 999, 9999, 20, 1, 0);
        Check.due("casks aboard", x.count(3), 2);
        Check.due("sift of an empty cask, which is aboard", x.sift(0), 0);
        Check.dueCask(x, 0, 0, 0, 0, 1, 1);
    }

    private static void overboard() {
        Check.sentence("then it has no biscuits and no weevils, and nothing happens to it any more, but that its damp evens out with that of others");
        BiscuitMess x = Check.ship(cask("a", 100, 60, 8) + cask("b", 50, 30, 0) + mess("m", 5, 1)
                + "issue m from a;throw a when day=0;sift a when 1=1;throw a when 1=1;");
        x.pass(1);
        Check.dueCask(x, 0, 0, 0, 6, 0, 0);
        Check.dueCask(x, 1, 49, 30, 2, 1, 0);
        Check.dueMess(x, 0, 5, 1, 2, 0, 0, 1, 0);
        Check.due("casks aboard", x.count(3), 1);
        x.pass(1);
        Check.dueCask(x, 0, 0, 0, 5, 0, 0);
        Check.dueCask(x, 1, 48, 33, 3, 1, 0);
        Check.due("tap of one overboard", x.tap(0, 99), 0);
        Check.due("all damp, of one overboard too", x.count(9), 8);
        x = behind(2, 1, cask("a", 100, 60, 8) + cask("b", 50, 30, 8) + "throw b when biscuits b<50;throw b when day=1;");
        Check.dueCask(x, 1, 0, 0, 8, 0, 0);
        x = behind(3, 1, cask("a", 0, 0, 20) + "throw a when 1=1;");
        Check.dueCask(x, 0, 0, 0, 20, 0, 0);
    }

    private static void messAtFirst() {
        Check.sentence("A mess has a temper, 0 (at first) to 99, got biscuits on the latest day (0, at first), and complained so often (0, at first)");
        BiscuitMess x = Check.ship(mess("m", 1, 1) + mess("n", 30, 9));
        Check.dueMess(x, 0, 1, 1, 0, 0, 0, 0, 0);
        Check.dueMess(x, 1, 30, 9, 0, 0, 0, 0, 0);
        x = behind(2, 1, cask("a", 8, 0, 0) + mess("m", 5, 1) + "issue m from a;");
        Check.dueMess(x, 0, 5, 1, 2, 3, 0, 1, 8);
        x.pass(1);
        Check.dueMess(x, 0, 5, 1, 4, 0, 0, 2, 8);
    }

    private static void rationBounds() {
        Check.sentence("There is a ration, 0 to 9 biscuits a man (1, at first)");
        Check.due("the ration at first", new BiscuitMess().count(1), 1);
        String text = cask("a", 999, 0, 0) + mess("m", 30, 1) + "issue m from a;";
        BiscuitMess x = Check.ship(text);
        x.pass(1);
        Check.dueMess(x, 0, 30, 1, 0, 30, 0, 0, 30);
        Check.dueMess(behind(1, 0, text), 0, 30, 1, 0, 0, 0, 0, 0);
        Check.dueMess(behind(1, 9, text), 0, 30, 1, 0, 270, 0, 0, 270);
    }

    private static final int[][] TAPPED = {
        // biscuits, weevils, tapped, found
        {40, 99, 0, 0}, {40, 99, 1, 2}, {40, 99, 5, 12}, {40, 99, 99, 245}, {3, 2, 1, 0}, {3, 2, 2, 1}, {3, 2, 3, 2}, {3, 2, 5, 3},
        {3, 2, 99, 66}, {1, 1, 99, 99}, {1, 9999, 99, 989901}, {999, 9999, 99, 990}, {100, 1, 99, 0}, {99, 1, 99, 1}, {50, 0, 99, 0},
        {0, 0, 5, 0}, {0, 9, 5, 0}, {0, 9999, 99, 0}, {0, 9, 0, 0}, {1, 0, 5, 0}, {6, 1, 5, 0}, {5, 1, 5, 1}, {4, 1, 5, 1},
    };

    private static void tapping() {
        Check.sentence("Tapping n biscuits of a cask finds n * weevils / biscuits weevils (cut; also if there are fewer than n); 0 without biscuits");
        for (int[] row : TAPPED) {
            Check.due("tap " + row[2] + " of " + row[0] + " with " + row[1], Check.ship(cask("a", row[0], row[1], 0)).tap(0, row[2]), row[3]);
        }
    }

    private static void tapsInTests() {
        Check.sentence("taps of a cask is what tapping 5 of its biscuits finds");
        for (int[] row : TAPPED) {
            int found = row[0] == 0 ? 0 : 5 * row[1] / row[0];
            BiscuitMess x = Check.ship(cask("a", row[0], row[1], 0) + cask("b", 9, 0, 0) + "sift b when taps a=" + found + ";");
            Check.due("tap of 5", x.tap(0, 5), found);
            x.pass(1);
            Check.due("sifted when taps of " + row[0] + " with " + row[1] + "=" + found, x.cask(1, 4), 1);
        }
    }

    private static void sifting() {
        Check.sentence("Sifting a cask: half of its weevils (the greater half, if it is odd) are out, and a tenth (cut) of its biscuits is crumbs");
        int[][] rows = {
            // biscuits, weevils, weevils out, biscuits then
            {9, 0, 0, 9}, {10, 1, 1, 9}, {11, 2, 1, 10}, {19, 3, 2, 18}, {20, 4, 2, 18}, {21, 9, 5, 19}, {0, 5, 3, 0}, {1, 4, 2, 1},
            {99, 29, 15, 90}, {999, 28, 14, 900}, {999, 9999, 5000, 900}, {990, 9998, 4999, 891},
        };
        for (int[] row : rows) {
            BiscuitMess x = Check.ship(cask("a", row[0], row[1], 3) + "sift a when day=0;");
            BiscuitMess byHand = Check.ship(cask("a", row[0], row[1], 3));
            Check.due("weevils out of " + row[1], byHand.sift(0), row[2]);
            Check.dueCask(byHand, 0, row[3], row[1] - row[2], 3, 1, 1);
            int left = row[1] - row[2];
            int biscuits = Math.max(0, row[3] - left / 30);
            x.pass(1);
            Check.dueCask(x, 0, biscuits, Math.min(10 * biscuits, left + left * 3 / 20), 3, 1, 1);
        }
    }

    // ---- 1. inspectors

    private static void ordersInOrder() {
        Check.sentence("Inspectors: the lines of sift and throw, in the order in which they are told");
        String casks = cask("a", 100, 8, 0) + cask("b", 100, 8, 0);
        BiscuitMess x = behind(1, 1, casks + "sift a when weevils a=8;sift a when weevils a=8;sift b when weevils a=4;");
        Check.dueCask(x, 0, 90, 4, 0, 1, 1);
        Check.dueCask(x, 1, 90, 4, 0, 1, 1);
        x = behind(1, 1, casks + "sift b when weevils a=4;sift a when weevils a=8;");
        Check.dueCask(x, 1, 100, 8, 0, 1, 0);
        x = behind(1, 1, casks + "throw b when biscuits a<100;sift a when 1=1;");
        Check.dueCask(x, 1, 100, 8, 0, 1, 0);
        x = behind(1, 1, casks + "sift a when 1=1;throw b when biscuits a<100;sift a when biscuits b=0;");
        Check.dueCask(x, 0, 81, 2, 0, 1, 2);
        Check.dueCask(x, 1, 0, 0, 0, 0, 0);
    }

    private static void ordersOnlyAboard() {
        Check.sentence("if its cask is aboard, and its test holds now, it is sifted, or thrown overboard");
        BiscuitMess x = behind(1, 1, cask("a", 100, 8, 0) + "sift a when 1=1;throw a when 1=1;sift a when 1=1;throw a when 1=1;");
        Check.dueCask(x, 0, 0, 0, 0, 0, 1);
        x.fill(0, 100);
        Check.dueCask(x, 0, 100, 0, 0, 1, 1);
        x.pass(1);
        Check.dueCask(x, 0, 0, 0, 0, 0, 2);
        x = behind(3, 1, cask("a", 100, 8, 0) + "sift a when 1=2;throw a when not 1=1;");
        Check.dueCask(x, 0, 100, 8, 0, 1, 0);
        x = behind(5, 1, cask("a", 0, 0, 0) + "sift a when 1=1;");
        Check.dueCask(x, 0, 0, 0, 0, 1, 5);
    }

    private static void testsOfOrdersNow() {
        Check.sentence("its test holds now: ahead of the rations");
        BiscuitMess x = Check.ship(cask("a", 10, 0, 0) + cask("b", 100, 0, 0) + mess("m", 5, 1) + "issue m from a;"
                + "sift b when biscuits a=10;throw b when biscuits a=0;");
        x.pass(1);
        Check.dueCask(x, 1, 90, 0, 0, 1, 1);
        x.pass(1);
        Check.dueCask(x, 1, 90, 0, 0, 1, 1);
        x.pass(1);
        Check.dueCask(x, 1, 0, 0, 0, 0, 1);
        x = behind(1, 1, cask("a", 10, 0, 0) + mess("m", 5, 1) + "issue m from a;throw a when 1=1;");
        Check.dueMess(x, 0, 5, 1, 2, 0, 0, 1, 0);
        x = behind(1, 9, cask("a", 10, 7, 0) + mess("m", 5, 1) + "issue m from a;sift a when 1=1;");
        Check.dueMess(x, 0, 5, 1, 2, 9, 3, 1, 9);
    }

    // ---- 2. rations

    private static void messesByNumbers() {
        Check.sentence("Rations: messes, by numbers");
        BiscuitMess x = behind(1, 1, cask("a", 10, 0, 0) + mess("m", 6, 1) + mess("n", 6, 1) + "issue n from a;issue m from a;");
        Check.dueMess(x, 0, 6, 1, 0, 6, 0, 0, 6);
        Check.dueMess(x, 1, 6, 1, 2, 4, 0, 1, 4);
        x = behind(1, 1, cask("a", 10, 0, 0) + mess("n", 6, 1) + mess("m", 6, 1) + "issue m from a;issue n from a;");
        Check.dueMess(x, 0, 6, 1, 0, 6, 0, 0, 6);
        Check.dueMess(x, 1, 6, 1, 2, 4, 0, 1, 4);
    }

    private static void asked() {
        Check.sentence("A mess asks as many biscuits as men * ration");
        int[][] rows = {{1, 1}, {1, 9}, {30, 1}, {30, 9}, {7, 3}, {30, 0}, {1, 0}};
        for (int[] row : rows) {
            int asked = row[0] * row[1];
            BiscuitMess x = behind(1, row[1], cask("a", 999, 0, 0) + mess("m", row[0], 5) + "issue m from a;");
            Check.dueMess(x, 0, row[0], 5, 0, asked, 0, 0, asked);
            Check.due("biscuits that are left", x.cask(0, 0), 999 - asked);
        }
    }

    private static void tillItHasAll() {
        Check.sentence("Its issues, in the order in which they are told, are gone through till it has all");
        int[][] rows = {
            // biscuits of a and b; of these and of c then
            {5, 5, 0, 5, 9}, {6, 5, 1, 5, 9}, {4, 5, 0, 4, 9}, {0, 5, 0, 0, 9}, {0, 4, 0, 0, 8}, {2, 2, 0, 0, 8}, {1, 1, 0, 0, 6}, {0, 0, 0, 0, 4},
        };
        for (int[] row : rows) {
            BiscuitMess x = behind(1, 1, cask("c", 9, 0, 0) + cask("b", row[1], 0, 0) + cask("a", row[0], 0, 0) + mess("m", 5, 1) + mess("n", 1, 1)
                    + "issue m from a;issue m from b;issue m from c;");
            Check.due("left of a", x.cask(2, 0), row[2]);
            Check.due("left of b", x.cask(1, 0), row[3]);
            Check.due("left of c", x.cask(0, 0), row[4]);
            Check.due("got", x.mess(0, 3), 5);
            Check.due("the other mess has no issue", x.mess(1, 3), 0);
        }
    }

    private static void asFarAsThereAreSome() {
        Check.sentence("as many as it still asks, as far as there are some, come out of the cask");
        int[] biscuits = {0, 1, 4, 5, 6};
        for (int some : biscuits) {
            BiscuitMess x = behind(1, 1, cask("a", some, 0, 0) + mess("m", 5, 1) + "issue m from a;issue m from a;");
            Check.due("got of " + some, x.mess(0, 3), Math.min(some, 5));
            Check.due("left of " + some, x.cask(0, 0), Math.max(some - 5, 0));
            Check.due("eaten", x.count(11), Math.min(some, 5));
        }
    }

    private static void weevilsWithThem() {
        Check.sentence("of its weevils as many with them as weevils * these biscuits / the biscuits that were there ahead of them (cut)");
        int[][] rows = {
            // biscuits, weevils, men, weevils with them
            {10, 9, 1, 0}, {10, 9, 2, 1}, {10, 9, 9, 8}, {10, 9, 10, 9}, {10, 9, 11, 9}, {10, 10, 1, 1}, {10, 0, 5, 0}, {3, 29, 1, 9}, {3, 29, 2, 19},
            {0, 9, 5, 0}, {999, 9999, 1, 10}, {1, 9999, 1, 9999},
        };
        for (int[] row : rows) {
            BiscuitMess x = behind(1, 1, cask("a", row[0], row[1], 0) + mess("m", row[2], 1) + "issue m from a;");
            Check.due("weevils with " + row[2] + " of " + row[0], x.mess(0, 4), row[3]);
            Check.due("weevils eaten", x.count(12), row[3]);
            int biscuits = Math.max(0, row[0] - row[2]);
            int weevils = row[1] - row[3];
            int left = Math.max(0, biscuits - weevils / 30);
            Check.dueCask(x, 0, left, Math.min(weevils, 10 * left), 0, 1, 0);
        }
        BiscuitMess x = behind(1, 1, cask("a", 10, 9, 0) + mess("m", 5, 1) + mess("n", 3, 1) + "issue m from a;issue n from a;");
        Check.dueMess(x, 0, 5, 1, 0, 5, 4, 0, 5);
        Check.dueMess(x, 1, 3, 1, 0, 3, 3, 0, 3);
        x = behind(1, 1, cask("a", 3, 7, 0) + cask("b", 9, 8, 0) + mess("m", 5, 1) + "issue m from a;issue m from b;");
        Check.dueMess(x, 0, 5, 1, 0, 5, 8, 0, 5);
        Check.dueCask(x, 1, 7, 7, 0, 1, 0);
    }

    private static void testsOfIssuesNow() {
        Check.sentence("if the cask is aboard, and the test holds now (or it has none)");
        String stores = cask("a", 3, 0, 0) + cask("b", 9, 0, 0) + mess("m", 5, 1);
        BiscuitMess x = behind(1, 1, stores + "issue m from a;issue m from b when biscuits a=0;");
        Check.due("behind the issue ahead of it", x.mess(0, 3), 5);
        x = behind(1, 1, stores + "issue m from b when biscuits a=0;issue m from a;");
        Check.due("ahead of it", x.mess(0, 3), 3);
        x = behind(1, 1, stores + "issue m from b when 1=2;issue m from a when 1=1;");
        Check.due("when it does not hold", x.mess(0, 3), 3);
        x = behind(1, 1, stores + mess("n", 2, 1) + "issue n from b when biscuits a=0;issue m from a;");
        Check.due("behind the mess ahead of it", x.mess(1, 3), 2);
        x = behind(1, 1, mess("n", 2, 1) + stores + "issue n from b when biscuits a=0;issue m from a;");
        Check.due("ahead of the mess behind it", x.mess(0, 3), 0);
        x = behind(2, 1, stores + "issue m from b;throw b when day=1;");
        Check.due("when it is overboard", x.mess(0, 3), 0);
        x.fill(1, 9);
        x.pass(1);
        Check.due("when it is aboard again", x.mess(0, 3), 5);
    }

    // ---- 3. complaints

    private static void hungry() {
        Check.sentence("Each mess complains, if it got fewer biscuits than it asked (its temper is 2 worse by that)");
        int[][] rows = {{5, 1, 4}, {5, 1, 5}, {5, 1, 6}, {30, 9, 269}, {30, 9, 270}, {1, 1, 0}, {1, 1, 1}, {1, 0, 0}, {30, 0, 9}};
        for (int[] row : rows) {
            boolean fewer = row[2] < row[0] * row[1];
            BiscuitMess x = behind(1, row[1], cask("a", row[2], 0, 0) + mess("m", row[0], 5) + "issue m from a;");
            Check.due("complaints of " + row[0] + " with " + row[2], x.mess(0, 5), fewer ? 1 : 0);
            Check.due("temper of " + row[0] + " with " + row[2], x.mess(0, 2), fewer ? 2 : 0);
        }
    }

    private static void disgusted() {
        Check.sentence("and once more, if more weevils came with them than men * (10 - proud) (1 worse)");
        for (int men : new int[] {1, 2, 30}) {
            for (int proud = 1; proud <= 9; proud++) {
                int most = men * (10 - proud);
                for (int more = -1; more <= 2; more++) {
                    String text = cask("a", men, most + more, 0) + mess("m", men, proud) + "issue m from a;";
                    BiscuitMess x = behind(1, 1, text);
                    Check.due("weevils with them", x.mess(0, 4), most + more);
                    Check.due("complaints at " + more + " more than " + most, x.mess(0, 5), more > 0 ? 1 : 0);
                    Check.due("temper at " + more + " more than " + most, x.mess(0, 2), more > 0 ? 1 : 0);
                }
            }
        }
    }

    private static void bothComplaints() {
        Check.sentence("Each mess complains ..., and once more");
        BiscuitMess x = Check.ship(cask("a", 4, 6, 0) + mess("m", 5, 9) + "issue m from a;");
        Check.due("complaints on the day", x.pass(1), 2);
        Check.dueMess(x, 0, 5, 9, 3, 4, 6, 2, 4);
        x = Check.ship(cask("a", 4, 5, 0) + mess("m", 5, 9) + "issue m from a;");
        Check.due("complaints on the day", x.pass(1), 1);
        Check.dueMess(x, 0, 5, 9, 2, 4, 5, 1, 4);
        x = Check.ship(cask("a", 5, 6, 0) + mess("m", 5, 9) + "issue m from a;");
        Check.due("complaints on the day", x.pass(1), 1);
        Check.dueMess(x, 0, 5, 9, 1, 5, 6, 1, 5);
    }

    private static void better() {
        Check.sentence("a mess that did not complain at all is 1 better (temper at least 0");
        BiscuitMess x = Check.ship(cask("a", 999, 0, 0) + mess("m", 5, 9) + "issue m from a when day>1;");
        int[] tempers = {2, 4, 3, 2, 1, 0, 0, 0};
        for (int day = 0; day < tempers.length; day++) {
            x.pass(1);
            Check.due("temper behind day " + day, x.mess(0, 2), tempers[day]);
        }
        String stores = cask("a", 5, 6, 0) + mess("m", 5, 9) + "issue m from a;";
        x = behind(2, 1, stores + cask("b", 4, 0, 0) + "issue m from b;");
        Check.due("temper behind weevils, and a hungry day", x.mess(0, 2), 3);
        x = behind(2, 1, stores + cask("b", 5, 0, 0) + "issue m from b;");
        Check.due("temper behind weevils, and a good day", x.mess(0, 2), 0);
        x = behind(3, 0, mess("m", 5, 9));
        Check.dueMess(x, 0, 5, 9, 0, 0, 0, 0, 0);
    }

    private static void atMost99() {
        Check.sentence("at most 99)");
        String stores = cask("a", 8, 16, 0) + mess("m", 1, 9);
        BiscuitMess x = behind(49, 1, stores);
        Check.due("temper behind 49 hungry days", x.mess(0, 2), 98);
        x.pass(1);
        Check.due("98 and 2", x.mess(0, 2), 99);
        x.pass(1);
        Check.due("99 and 2", x.mess(0, 2), 99);
        x.setRation(0);
        x.pass(1);
        Check.due("99 and a good day", x.mess(0, 2), 98);
        x = behind(49, 1, stores + "issue m from a when day>48;");
        x.pass(1);
        Check.dueMess(x, 0, 1, 9, 99, 1, 2, 50, 1);
        x.pass(1);
        Check.dueMess(x, 0, 1, 9, 99, 1, 2, 51, 2);
        x = behind(49, 1, stores + "issue m from a when day>48;");
        x.setRation(9);
        x.pass(1);
        Check.dueMess(x, 0, 1, 9, 99, 8, 16, 51, 8);
        x = behind(90, 1, stores);
        x.setRation(0);
        x.pass(90);
        Check.due("99 behind 90 good days", x.mess(0, 2), 9);
        Check.due("complaints are not cut", x.mess(0, 5), 90);
    }

    // ---- 4. weevils

    private static void dueNight(int biscuits, int weevils, int damp, int biscuitsThen, int weevilsThen) {
        BiscuitMess x = behind(1, 1, cask("a", biscuits, weevils, damp));
        Check.dueCask(x, 0, biscuitsThen, weevilsThen, damp, 1, 0);
    }

    private static void eatenByWeevils() {
        Check.sentence("Casks aboard, each by itself: biscuits are fewer by a thirtieth of the weevils (cut; at least 0)");
        dueNight(100, 0, 0, 100, 0);
        dueNight(100, 29, 0, 100, 29);
        dueNight(100, 30, 0, 99, 30);
        dueNight(100, 59, 0, 99, 59);
        dueNight(100, 60, 0, 98, 60);
        dueNight(2, 59, 0, 1, 10);
        dueNight(2, 60, 0, 0, 0);
        dueNight(1, 30, 0, 0, 0);
        dueNight(1, 60, 0, 0, 0);
        dueNight(1, 9999, 20, 0, 0);
        dueNight(0, 0, 0, 0, 0);
        dueNight(0, 30, 0, 0, 0);
        dueNight(0, 29, 20, 0, 0);
        dueNight(333, 9999, 0, 0, 0);
        dueNight(334, 9999, 0, 1, 10);
        BiscuitMess x = behind(1, 1, cask("a", 100, 60, 0) + cask("b", 100, 90, 0) + cask("c", 100, 0, 0));
        Check.dueCask(x, 0, 98, 60, 0, 1, 0);
        Check.dueCask(x, 1, 97, 90, 0, 1, 0);
        Check.dueCask(x, 2, 100, 0, 0, 1, 0);
    }

    private static void bred() {
        Check.sentence("then weevils are more by weevils * damp / 20 (cut), and by 1 more with a damp of 6 or more");
        dueNight(100, 19, 1, 100, 19);
        dueNight(100, 20, 1, 100, 21);
        dueNight(100, 21, 1, 100, 22);
        dueNight(100, 4, 5, 100, 5);
        dueNight(100, 3, 5, 100, 3);
        dueNight(100, 0, 5, 100, 0);
        dueNight(100, 0, 6, 100, 1);
        dueNight(100, 3, 6, 100, 4);
        dueNight(100, 4, 6, 100, 6);
        dueNight(100, 10, 20, 100, 21);
        dueNight(100, 10, 19, 100, 20);
        dueNight(100, 10, 0, 100, 10);
        dueNight(100, 0, 20, 100, 1);
        dueNight(999, 3000, 20, 899, 6001);
    }

    private static void tenForEachBiscuit() {
        Check.sentence("if they are more than 10 for each biscuit that is left then, they are as many as that");
        dueNight(4, 20, 19, 4, 40);
        dueNight(4, 20, 20, 4, 40);
        dueNight(4, 20, 18, 4, 39);
        dueNight(1, 9, 0, 1, 9);
        dueNight(1, 10, 0, 1, 10);
        dueNight(1, 11, 0, 1, 10);
        dueNight(13, 99, 0, 10, 99);
        dueNight(13, 100, 0, 10, 100);
        dueNight(13, 101, 0, 10, 100);
        dueNight(0, 1, 0, 0, 0);
        dueNight(0, 0, 6, 0, 0);
        dueNight(999, 9999, 20, 666, 6660);
    }

    // ---- 5. damp

    private static void dueDamp(int[] before, int[] then, String lines) {
        StringBuilder text = new StringBuilder();
        for (int i = 0; i < before.length; i++) {
            text.append(cask("c" + i, 100, 0, before[i]));
        }
        BiscuitMess x = behind(1, 1, text + lines);
        for (int i = 0; i < then.length; i++) {
            Check.due("damp " + i + " behind " + java.util.Arrays.toString(before), x.cask(i, 2), then[i]);
        }
    }

    private static void dampOfPairs() {
        Check.sentence("a quarter (cut) of how much damper the one is goes to the other one");
        int[][] rows = {{0, 0}, {1, 0}, {3, 0}, {4, 1}, {5, 1}, {7, 1}, {8, 2}, {11, 2}, {12, 3}, {19, 4}, {20, 5}};
        for (int[] row : rows) {
            dueDamp(new int[] {row[0], 0}, new int[] {row[0] - row[1], row[1]}, "");
            dueDamp(new int[] {0, row[0]}, new int[] {row[1], row[0] - row[1]}, "");
            dueDamp(new int[] {20, 20 - row[0]}, new int[] {20 - row[1], 20 - row[0] + row[1]}, "");
        }
        Check.sentence("Damp, from the first pair of casks beside each other by numbers (0 and 1) to the last one, one behind the other");
        dueDamp(new int[] {20}, new int[] {20}, "");
        dueDamp(new int[] {20, 0, 0, 0}, new int[] {15, 4, 1, 0}, "");
        dueDamp(new int[] {0, 0, 0, 20}, new int[] {0, 0, 5, 15}, "");
        dueDamp(new int[] {20, 0, 20}, new int[] {15, 8, 17}, "");
        dueDamp(new int[] {0, 3, 6}, new int[] {0, 3, 6}, "");
        dueDamp(new int[] {20, 0, 0, 0, 0, 0, 0, 20}, new int[] {15, 4, 1, 0, 0, 0, 5, 15}, "");
        dueDamp(new int[] {0, 20, 0, 20, 0, 20, 0, 20}, new int[] {5, 12, 7, 12, 8, 12, 8, 16}, "");
        Check.sentence("aboard or not");
        dueDamp(new int[] {20, 0, 20}, new int[] {15, 8, 17}, "throw c1 when 1=1;");
        dueDamp(new int[] {20, 0, 20}, new int[] {15, 8, 17}, "throw c0 when 1=1;throw c1 when 1=1;throw c2 when 1=1;");
        dueDamp(new int[] {20, 0}, new int[] {15, 5}, "throw c0 when 1=1;");
        dueDamp(new int[] {20, 0}, new int[] {15, 5}, "throw c1 when 1=1;");
    }

    private static void dampBehindWeevils() {
        Check.sentence("4. Casks aboard ... 5. Damp");
        BiscuitMess x = behind(1, 1, cask("a", 100, 20, 4) + cask("b", 100, 20, 0));
        Check.dueCask(x, 0, 100, 24, 3, 1, 0);
        Check.dueCask(x, 1, 100, 20, 1, 1, 0);
        x.pass(1);
        Check.dueCask(x, 0, 100, 27, 3, 1, 0);
        Check.dueCask(x, 1, 100, 21, 1, 1, 0);
        x = behind(1, 1, cask("a", 100, 0, 6) + cask("b", 100, 0, 2));
        Check.dueCask(x, 0, 100, 1, 5, 1, 0);
        Check.dueCask(x, 1, 100, 0, 3, 1, 0);
    }

    // ---- 6. the day

    private static void dayIsGreater() {
        Check.sentence("The day is 1 greater");
        BiscuitMess x = Check.ship(cask("a", 999, 0, 0) + mess("m", 5, 1) + "issue m from a when day=1;sift a when day=0;throw a when day=3;");
        Check.due("day", x.count(0), 0);
        x.pass(1);
        Check.due("day", x.count(0), 1);
        Check.due("sifted on day 0", x.cask(0, 4), 1);
        Check.due("got on day 0", x.mess(0, 3), 0);
        x.pass(1);
        Check.due("sifted on day 1", x.cask(0, 4), 1);
        Check.due("got on day 1", x.mess(0, 3), 5);
        x.pass(1);
        Check.due("got on day 2", x.mess(0, 3), 0);
        Check.due("aboard on day 2", x.cask(0, 3), 1);
        x.pass(1);
        Check.due("aboard on day 3", x.cask(0, 3), 0);
        Check.due("day", x.count(0), 4);
    }

    // ---- what tests see

    private static void gotInTests() {
        Check.sentence("got: the biscuits that it got so far on this day, from the beginning of its own turn in step 2 on; till then those of the day before");
        String stores = cask("a", 999, 0, 0) + cask("b", 3, 0, 0) + cask("c", 999, 0, 0) + mess("m", 5, 1) + mess("n", 5, 1);
        BiscuitMess x = behind(2, 1, stores + "issue m from a;sift c when got m=5;");
        Check.due("in step 1, on day 0 and 1", x.cask(2, 4), 1);
        x = behind(2, 1, stores + "issue n from c;issue m from a when got n=5;");
        Check.due("ahead of its turn, on day 1", x.mess(0, 3), 5);
        Check.due("ahead of its turn, on day 0", x.mess(0, 6), 5);
        x = behind(1, 1, stores + "issue m from c;issue n from a when got m=5;");
        Check.due("behind its turn, on day 0", x.mess(1, 3), 5);
        x = behind(2, 1, stores + "issue m from a when got m=0;");
        Check.due("at the beginning of its turn", x.mess(0, 6), 10);
        x = behind(2, 1, stores + "issue m from b;issue m from a when got m=3;issue m from a when day=1 and got m=0;");
        Check.due("within its turn", x.mess(0, 6), 10);
        x = behind(1, 1, stores + "issue m from a when got m>0;issue m from b;issue m from c when got m>=4;");
        Check.due("so far", x.mess(0, 6), 3);
        x = behind(1, 1, stores + "issue m from a;");
        x.setRation(0);
        x.pass(1);
        Check.due("without a ration", x.mess(0, 3), 0);
    }

    /** 8 casks, 6 messes, 24 issues and 12 orders, the last ones of which count like the first. */
    private static void fullShip() {
        Check.sentence("Error 4: the name of the 9th cask or of the 7th mess, the issue of the 25th issue, or the sift or throw of the 13th of both together");
        StringBuilder text = new StringBuilder();
        for (int i = 0; i < 8; i++) {
            text.append(cask("c" + i, 100 + i, 60, 0));
        }
        for (int i = 0; i < 6; i++) {
            text.append(mess("m" + i, 10 + i, 1));
        }
        text.append("issue m0 from c0;".repeat(19));
        for (int i = 1; i < 6; i++) {
            text.append("issue m").append(i).append(" from c").append(i < 5 ? i : 6).append(" when biscuits c7=97;");
        }
        text.append("sift c0 when 1=2;".repeat(8)).append("sift c6 when 1=1;throw c5 when 1=1;sift c5 when 1=1;sift c7 when 1=1;");
        BiscuitMess x = Check.ship(text.toString());
        Check.dueCounts(x, 0, 1, 8, 8, 6, 24, 12, 828, 480, 0, 0, 0, 0, 0);
        Check.due("complaints", x.pass(1), 0);
        Check.dueCounts(x, 1, 1, 8, 7, 6, 24, 12);
        for (int i = 0; i < 5; i++) {
            int weevils = 60 * (10 + i) / (100 + i);
            Check.dueMess(x, i, 10 + i, 1, 0, 10 + i, weevils, 0, 10 + i);
            Check.dueCask(x, i, 90 - (60 - weevils) / 30, 60 - weevils, 0, 1, 0);
        }
        // c6 and c7 are sifted to 96 and 97 with 30 weevils, of which m5 eats 4 with 15 biscuits.
        Check.dueMess(x, 5, 15, 1, 0, 15, 4, 0, 15);
        Check.dueCask(x, 5, 0, 0, 0, 0, 0);
        Check.dueCask(x, 6, 81, 26, 0, 1, 1);
        Check.dueCask(x, 7, 96, 30, 0, 1, 1);
        Check.due("hungry ones", Check.ship(text.toString().replaceAll("issue[^;]*;", "")).pass(1), 6);
    }

    private static void valuesInTests() {
        Check.sentence("In tests and sums day is the day, ration the ration, biscuits, weevils, damp and taps those of a cask, men, temper and got those of a mess");
        String stores = cask("a", 100, 41, 7) + cask("b", 50, 3, 7) + mess("m", 7, 2) + mess("n", 3, 8) + "issue n from a;";
        // On day 0, n gets 3 of a with 41 * 3 / 100 = 1 weevil; a thirtieth of 40 eats; 40 * 7 / 20 + 1 more are bred.
        Check.dueCask(behind(1, 1, stores), 0, 96, 55, 7, 1, 0);
        String[] holding = {"day=1", "ration=3", "biscuits a=96", "weevils a=55", "damp a=7", "taps a=2", "biscuits b=50", "weevils b=5",
            "damp b=7", "taps b=0", "men m=7", "men n=3", "temper m=2", "temper n=0", "got m=0", "got n=3"};
        for (String test : holding) {
            BiscuitMess x = behind(1, 1, stores + "throw a when day=1 and not " + test + ";sift b when day=1 and " + test + ";");
            x.setRation(3);
            x.pass(1);
            Check.due("sifted when " + test, x.cask(1, 4), 1);
            Check.due("aboard, not thrown when not " + test, x.cask(0, 3), 1);
        }
        Check.sentence("temper: worse in step 3, behind the rations");
        BiscuitMess x = behind(1, 1, cask("a", 100, 0, 0) + mess("m", 5, 1) + mess("n", 5, 1) + "issue n from a when temper m>0;");
        Check.due("temper of the same day", x.mess(1, 3), 0);
        x.pass(1);
        Check.due("temper of the day before", x.mess(1, 3), 5);
    }
}
