import java.util.ArrayList;
import java.util.List;

/** Objects in states of their own, and all that can be told of one. */
final class Ships {
    /** Three casks and two messes; c goes overboard on day 2. */
    static final String STORES = "cask a biscuits 300 weevils 60 damp 9;cask b biscuits 400 weevils 20 damp 2;"
            + "cask c biscuits 150 weevils 300 damp 14;mess m men 6 proud 4;mess n men 9 proud 8;"
            + "issue m from a when taps a<4;issue m from b;issue n from c;issue n from b when temper n>3;"
            + "sift a when weevils a>100 and day/2*2=day;throw c when day=2;";
    private static final String WRONG = "cask q biscuits 1000 weevils 3 damp 2;";
    private static final String NEXT = "cask q biscuits 7 weevils 3 damp 2;mess r men 3 proud 3;";

    private Ships() {
    }

    static BiscuitMess fresh() {
        return new BiscuitMess();
    }

    /** Has been at sea, a list with an error was read, and another list stands on its tape. */
    static BiscuitMess used() {
        BiscuitMess x = Check.ship(STORES);
        x.setRation(2);
        x.pass(3);
        x.sift(0);
        x.fill(1, 10);
        x.dry(0);
        Check.write(x, WRONG);
        x.teach();
        Check.write(x, NEXT);
        return x;
    }

    /** The same, with a tape that no byte can be added to. */
    static BiscuitMess full() {
        BiscuitMess x = used();
        x.trim(0);
        Check.write(x, NEXT + " ".repeat(2000 - NEXT.length()));
        return x;
    }

    /** What the object answers now, and later, but for errorAt() now; uses it up. */
    static long[] told(BiscuitMess x) {
        List<Long> all = new ArrayList<>();
        addState(all, x);
        addForesight(all, x);
        all.add((long) x.pass(2));
        addState(all, x);
        all.add((long) x.teach());
        all.add((long) x.errorAt());
        addState(all, x);
        all.add((long) x.pass(1));
        addState(all, x);
        long[] numbers = new long[all.size()];
        for (int i = 0; i < numbers.length; i++) {
            numbers[i] = all.get(i);
        }
        return numbers;
    }

    private static void addState(List<Long> all, BiscuitMess x) {
        for (int what = 0; what < 14; what++) {
            all.add((long) x.count(what));
        }
        for (int cask = 0; cask < x.count(2); cask++) {
            for (int what = 0; what < 5; what++) {
                all.add((long) x.cask(cask, what));
            }
        }
        for (int mess = 0; mess < x.count(4); mess++) {
            for (int what = 0; what < 7; what++) {
                all.add((long) x.mess(mess, what));
            }
        }
        all.add(Double.doubleToLongBits(x.mean()));
        all.add(x.digest());
    }

    private static void addForesight(List<Long> all, BiscuitMess x) {
        for (int cask = 0; cask < x.count(2); cask++) {
            all.add((long) x.tap(cask, 99));
            all.add((long) x.lasts(cask));
        }
        for (int mess = 0; mess < x.count(4); mess++) {
            all.add((long) x.mutiny(mess, 50));
        }
        for (int what = 0; what < 5; what++) {
            all.add((long) x.foresee(1, what));
            all.add((long) x.foresee(30, what));
        }
        all.add((long) x.advise(10));
        all.add((long) x.choose(10));
    }
}
