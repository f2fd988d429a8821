/** Promises 15 to 21: what would be, the mean and the checksum. */
public final class ForesightTest {
    public static void main(String[] args) {
        lasts();
        mutiny();
        foresee();
        advise();
        choose();
        mean();
        digest();
        Check.end("ForesightTest");
    }

    private static void lasts() {
        String mess = "mess m men 4 proud 1;";
        BiscuitMess x = Check.ship("cask a biscuits 0 weevils 0 damp 0;cask b biscuits 4 weevils 0 damp 0;"
                + "cask c biscuits 800 weevils 0 damp 0;cask d biscuits 10 weevils 0 damp 0;cask e biscuits 801 weevils 0 damp 0;"
                + "cask f biscuits 30 weevils 0 damp 0;cask g biscuits 30 weevils 900 damp 0;" + mess
                + "mess n men 4 proud 1;mess o men 4 proud 1;mess p men 4 proud 1;issue m from b;issue m from d;"
                + "issue n from c;issue o from e;throw f when day=7;");
        long before = x.digest();
        Check.due("lasts of an empty one", x.lasts(0), 0);
        Check.due("lasts of one day's", x.lasts(1), 1);
        Check.due("lasts of 200 days'", x.lasts(2), 200);
        Check.due("lasts of more", x.lasts(4), -1);
        Check.due("lasts behind another one", x.lasts(3), 4);
        Check.due("lasts till it is thrown overboard", x.lasts(5), 8);
        Check.due("lasts with weevils", x.lasts(6), 1);
        Check.due("nothing is changed", x.digest(), before);
        x.pass(8);
        Check.due("lasts overboard", x.lasts(5), 0);
        Check.due("lasts of 801 - 32", x.lasts(4), 193);
        x.pass(1);
        Check.due("lasts of 801 - 36", x.lasts(4), 192);
        Check.dueIndex("lasts(7)", x, () -> x.lasts(7));
        Check.dueIndex("lasts(-1)", x, () -> x.lasts(-1));
    }

    private static void mutiny() {
        BiscuitMess x = Check.ship("mess m men 1 proud 1;mess n men 1 proud 1;cask a biscuits 900 weevils 0 damp 0;"
                + "issue n from a when day<160 or temper n>76;");
        long before = x.digest();
        Check.due("mutiny at 0", x.mutiny(0, 0), 0);
        Check.due("mutiny at 1", x.mutiny(0, 1), 1);
        Check.due("mutiny at 2", x.mutiny(0, 2), 1);
        Check.due("mutiny at 3", x.mutiny(0, 3), 2);
        Check.due("mutiny at 99", x.mutiny(0, 99), 50);
        Check.due("a late mutiny", x.mutiny(1, 1), 161);
        Check.due("the latest mutiny", x.mutiny(1, 78), 199);
        Check.due("no mutiny", x.mutiny(1, 79), -1);
        Check.due("nothing is changed", x.digest(), before);
        BiscuitMess y = Check.ship("mess n men 1 proud 1;cask a biscuits 900 weevils 0 damp 0;issue n from a when day<199;");
        Check.due("mutiny on the last day", y.mutiny(0, 1), 200);
        Check.due("mutiny on the last day", y.mutiny(0, 2), 200);
        Check.due("mutiny beyond it", y.mutiny(0, 3), -1);
        x.pass(4);
        Check.due("mutiny now", x.mutiny(0, 8), 0);
        Check.due("mutiny then", x.mutiny(0, 9), 1);
        Check.dueArgument("mutiny(0, -1)", x, () -> x.mutiny(0, -1));
        Check.dueArgument("mutiny(0, 100)", x, () -> x.mutiny(0, 100));
        Check.dueIndex("mutiny(2, 100)", x, () -> x.mutiny(2, 100));
        Check.dueIndex("mutiny(-1, 0)", x, () -> x.mutiny(-1, 0));
    }

    private static final String STORES = "cask a biscuits 300 weevils 60 damp 9;cask b biscuits 400 weevils 20 damp 2;"
            + "cask c biscuits 150 weevils 300 damp 14;mess m men 6 proud 4;mess n men 9 proud 8;"
            + "issue m from a when taps a<4;issue m from b;issue n from c;issue n from b when temper n>3;"
            + "sift a when weevils a>100 and day/2*2=day;throw c when taps c>30;";

    private static void foresee() {
        for (int days : new int[] {1, 2, 7, 30, 90}) {
            BiscuitMess x = Check.ship(STORES);
            x.setRation(days < 7 ? 3 : 2);
            x.pass(3);
            int[] seen = new int[5];
            long before = x.digest();
            for (int what = 0; what < 5; what++) {
                seen[what] = x.foresee(days, what);
            }
            Check.due("nothing is changed", x.digest(), before);
            int eaten = x.count(11);
            Check.due("complaints seen", seen[0], x.pass(days));
            Check.due("biscuits seen", seen[1], x.count(7));
            Check.due("weevils seen", seen[2], x.count(8));
            Check.due("eaten seen", seen[3], x.count(11) - eaten);
            Check.due("tempers seen", seen[4], x.mess(0, 2) + x.mess(1, 2));
        }
        BiscuitMess x = Check.ship("cask a biscuits 10 weevils 8 damp 0;mess m men 4 proud 7;mess n men 4 proud 7;issue n from a;");
        long[] due = {4, 0, 0, 10, 8};
        for (int what = 0; what < 5; what++) {
            Check.due("foresee(3, " + what + ")", x.foresee(3, what), due[what]);
        }
        // With the day before: m has got 4 then, by which a is thrown overboard.
        BiscuitMess z = Check.ship("cask a biscuits 90 weevils 8 damp 0;mess m men 4 proud 7;issue m from a;throw a when got m=4;");
        Check.due("foresee(1, 1) at first", z.foresee(1, 1), 86);
        z.pass(1);
        Check.due("foresee(1, 1) then", z.foresee(1, 1), 0);
        for (int days : new int[] {0, -1, 91}) {
            Check.dueArgument("foresee(" + days + ", 0)", x, () -> x.foresee(days, 0));
            Check.dueArgument("foresee(" + days + ", 5)", x, () -> x.foresee(days, 5));
        }
        Check.dueIndex("foresee(1, -1)", x, () -> x.foresee(1, -1));
        Check.dueIndex("foresee(90, 5)", x, () -> x.foresee(90, 5));
    }

    private static void advise() {
        Check.due("no messes", new BiscuitMess().advise(60), 9);
        BiscuitMess x = Check.ship("cask a biscuits 60 weevils 0 damp 0;mess m men 2 proud 1;issue m from a;");
        long before = x.digest();
        Check.due("advise(1)", x.advise(1), 9);
        Check.due("advise(3)", x.advise(3), 9);
        Check.due("advise(4)", x.advise(4), 7);
        Check.due("advise(5)", x.advise(5), 6);
        Check.due("advise(30)", x.advise(30), 1);
        Check.due("advise(60)", x.advise(60), 1);
        Check.due("nothing is changed", x.digest(), before);
        x.setRation(7);
        Check.due("advise from another ration", x.advise(5), 6);
        Check.due("the ration stays", x.count(1), 7);
        BiscuitMess y = Check.ship("mess m men 2 proud 1;");
        Check.due("all the same", y.advise(10), 9);
        BiscuitMess z = Check.ship("cask a biscuits 600 weevils 0 damp 0;mess m men 2 proud 1;issue m from a when ration=4 or ration=2;");
        Check.due("by a test", z.advise(10), 4);
        for (int days : new int[] {0, -1, 61}) {
            Check.dueArgument("advise(" + days + ")", x, () -> x.advise(days));
        }
    }

    private static void choose() {
        Check.due("no casks", new BiscuitMess().choose(60), -1);
        String mess = "mess m men 10 proud 9;";
        BiscuitMess x = Check.ship("cask a biscuits 200 weevils 0 damp 0;cask b biscuits 100 weevils 150 damp 0;"
                + "cask c biscuits 100 weevils 150 damp 0;" + mess + "issue m from b;");
        long before = x.digest();
        Check.due("choose(1)", x.choose(1), 1);
        Check.due("nothing is changed", x.digest(), before);
        x = Check.ship("cask a biscuits 200 weevils 0 damp 0;cask b biscuits 100 weevils 150 damp 0;"
                + "cask c biscuits 100 weevils 150 damp 0;" + mess + "issue m from b when weevils c>999;issue m from c;");
        Check.due("the one that is eaten", x.choose(1), 2);
        x = Check.ship("cask a biscuits 200 weevils 0 damp 0;cask b biscuits 100 weevils 150 damp 0;"
                + "cask c biscuits 100 weevils 150 damp 0;" + mess
                + "issue m from a when weevils c<100 or weevils b<100;issue m from c;");
        Check.due("of several the first", x.choose(1), 1);
        x = Check.ship("cask a biscuits 200 weevils 0 damp 0;cask b biscuits 100 weevils 10 damp 0;" + mess + "issue m from a;");
        Check.due("none is better", x.choose(20), -1);
        Check.due("all are hungry behind it", x.choose(60), -1);
        x = Check.ship("cask a biscuits 200 weevils 0 damp 0;cask b biscuits 100 weevils 150 damp 0;" + mess
                + "issue m from a when day>2 or weevils b<100 and biscuits b>0;throw b when day=1;");
        Check.due("before it is overboard", x.choose(1), 1);
        x.pass(2);
        Check.due("overboard", x.cask(1, 3), 0);
        Check.due("overboard ones are not looked at", x.choose(1), -1);
        x = Check.ship("cask a biscuits 100 weevils 150 damp 0;cask b biscuits 100 weevils 150 damp 0;" + mess
                + "mess n men 10 proud 9;mess o men 10 proud 9;issue m from a;issue n from b;issue o from b;");
        Check.due("the better one", x.choose(1), 1);
        x = Check.ship("cask a biscuits 100 weevils 150 damp 0;cask b biscuits 100 weevils 150 damp 0;" + mess
                + "issue m from a;");
        Check.due("the first one", x.choose(1), 0);
        for (int days : new int[] {0, -1, 61}) {
            BiscuitMess y = x;
            Check.dueArgument("choose(" + days + ")", y, () -> y.choose(days));
        }
    }

    private static void mean() {
        Check.dueDouble("mean of nothing", new BiscuitMess().mean(), 0.0);
        BiscuitMess x = Check.ship("cask a biscuits 30 weevils 0 damp 0;cask b biscuits 21 weevils 10 damp 0;"
                + "mess m men 10 proud 1;mess n men 20 proud 1;issue m from a;issue n from b;");
        Check.dueDouble("mean before all", x.mean(), 0.0);
        x.pass(1);
        Check.dueDouble("mean then", x.mean(), 9.0 / 30);
        x.pass(1);
        Check.dueDouble("mean behind the next", x.mean(), 10.0 / 41);
        Check.write(x, "");
        x.teach();
        Check.dueDouble("mean anew", x.mean(), 0.0);
    }

    private static long more(long d, long... numbers) {
        for (long x : numbers) {
            d = d * 31 + x;
        }
        return d;
    }

    private static void digest() {
        Check.due("digest of a new object", new BiscuitMess().digest(), more(787, 0, 1, 0, 0, 0, 0, 0, 0, 0, 0, 0, 0, 0, 0));
        BiscuitMess x = Check.ship("cask a biscuits 30 weevils 12 damp 3;cask b biscuits 21 weevils 0 damp 0;"
                + "mess m men 10 proud 9;mess n men 20 proud 1;issue m from a;sift a when day=0;");
        Check.due("digest", x.digest(), more(787, 0, 1, 2, 2, 2, 1, 1, 51, 12, 3, 0, 0, 0, 0,
                30, 12, 3, 1, 0, 2, 21, 0, 0, 1, 0, 0, 10, 9, 0, 0, 0, 0, 0, 20, 1, 0, 0, 0, 0, 0));
        x.pass(1);
        x.feed(1, 2, 3, 4, 5);
        // Sifted: 27 with 6; eaten: 10 with 2; 17 with 4.
        Check.due("digest then", x.digest(), more(787, 1, 1, 2, 2, 2, 1, 1, 38, 4, 3, 1, 10, 2, 20,
                17, 4, 3, 1, 1, 1, 21, 0, 0, 1, 0, 0, 10, 9, 0, 10, 2, 0, 10, 20, 1, 2, 0, 0, 1, 0));
    }
}
