import java.math.BigInteger;
import java.util.ArrayList;
import java.util.List;

/** Promises 1 to 21: each boundary of an argument or an answer, and each refused call, has a test of its own. */
public final class EdgeCallsTest {
    private static final Class<IndexOutOfBoundsException> INDEX = IndexOutOfBoundsException.class;
    private static final Class<IllegalArgumentException> ARGUMENT = IllegalArgumentException.class;
    private static final Class<IllegalStateException> STATE = IllegalStateException.class;

    public static void main(String[] args) {
        newObject();
        feedAppends();
        feedRefused();
        trim();
        teachReplaces();
        teachKeeps();
        teachWithError();
        errorAt();
        count();
        cask();
        mess();
        tap();
        setRation();
        sift();
        fill();
        fillAboardAgain();
        dry();
        pass();
        lasts();
        mutiny();
        foresee();
        advise();
        choose();
        mean();
        digest();
        firstNamed();
        nothingIsChanged();
        manyCalls();
        objectsApart();
        Check.end("EdgeCallsTest");
    }

    // ---- 1: a new object

    private static void newObject() {
        Check.sentence("Creates a ship without casks and messes, on the day 0");
        Check.dueCounts(new BiscuitMess(), 0, 1, 0, 0, 0, 0, 0, 0, 0, 0, 0, 0, 0, 0);
        Check.due("errorAt", new BiscuitMess().errorAt(), -1);
        Check.dueDouble("mean", new BiscuitMess().mean(), 0);
        BiscuitMess x = new BiscuitMess();
        Check.due("foresee", x.foresee(90, 0) + x.foresee(90, 1) + x.foresee(90, 2) + x.foresee(90, 3) + x.foresee(90, 4), 0);
        Check.due("advise", x.advise(60), 9);
        Check.due("choose", x.choose(60), -1);
        Check.due("complaints of nobody", x.pass(90), 0);
        Check.dueCounts(x, 90, 1, 0, 0, 0, 0, 0, 0, 0, 0, 0, 0, 0, 0);
        Check.due("teach of nothing", x.teach(), 0);
        Check.dueSame("a teach of nothing", Ships.fresh(), Check.ship(""));
    }

    // ---- 2: feed

    private static final String TWENTY = "mess m men 8proud 7;";

    private static int number(String text, int at) {
        return text.charAt(at) << 24 | text.charAt(at + 1) << 16 | text.charAt(at + 2) << 8 | text.charAt(at + 3);
    }

    private static void feedAppends() {
        Check.sentence("Appends twenty bytes to the tape: the four bytes of each number, the highest one first");
        BiscuitMess x = new BiscuitMess();
        int[] n = new int[5];
        for (int i = 0; i < 5; i++) {
            n[i] = number(TWENTY, 4 * i);
        }
        Check.due("feed", x.feed(n[0], n[1], n[2], n[3], n[4]), 20);
        Check.due("teach", x.teach(), 0);
        Check.dueMess(x, 0, 8, 7, 0);
        for (int at = 0; at < 20; at++) {
            for (int sign : new int[] {0, 1, 127, 128, 255}) {
                int[] blanks = {0x20202020, 0x20202020, 0x20202020, 0x20202020, 0x20202020};
                int shift = 24 - 8 * (at % 4);
                blanks[at / 4] = blanks[at / 4] & ~(255 << shift) | sign << shift;
                x.feed(blanks[0], blanks[1], blanks[2], blanks[3], blanks[4]);
                Check.due("teach with byte " + sign, x.teach(), 1);
                Check.due("place of byte " + sign, x.errorAt(), at);
            }
        }
        for (int odd : new int[] {0, -1, Integer.MIN_VALUE, Integer.MAX_VALUE}) {
            Check.due("feed of " + odd, x.feed(odd, odd, odd, odd, odd), 20);
            Check.due("teach", x.teach(), 1);
            Check.due("place", x.errorAt(), 0);
        }
    }

    private static BiscuitMess withTape(int bytes) {
        BiscuitMess x = new BiscuitMess();
        for (int i = 0; i < 100; i++) {
            x.feed(0x20202020, 0x20202020, 0x20202020, 0x20202020, 0x20202020);
        }
        x.trim(bytes);
        return x;
    }

    private static void feedRefused() {
        Check.sentence("Throws IllegalStateException if there would be more than 2000");
        BiscuitMess x = new BiscuitMess();
        for (int i = 1; i <= 100; i++) {
            Check.due("feed " + i, x.feed(i, -i, 0, i << 16, -1), 20 * i);
        }
        for (int bytes : new int[] {0, 1, 20, 1979, 1980}) {
            Check.due("feed behind " + bytes, withTape(bytes).feed(1, 2, 3, 4, 5), bytes + 20);
        }
        for (int bytes : new int[] {1981, 1982, 1990, 1999, 2000}) {
            Check.dueRefused("feed behind " + bytes, () -> withTape(bytes), STATE, y -> y.feed(0x3b3b3b3b, 2, 3, 4, 5));
        }
        Check.dueRefused("feed of a full tape", Ships::full, STATE, y -> y.feed(0, 0, 0, 0, 0));
    }

    // ---- 3: trim

    private static void trim() {
        Check.sentence("Shortens the tape to its first bytes; n is 0 to the number of bytes of the tape");
        for (int bytes : new int[] {0, 1, 20, 999, 2000}) {
            Check.dueRange("trim of " + bytes + " bytes", () -> withTape(bytes), 0, bytes, ARGUMENT, BiscuitMess::trim);
            Check.due("trim to all " + bytes, withTape(bytes).trim(bytes), bytes);
            Check.due("trim to none of " + bytes, withTape(bytes).trim(0), 0);
            Check.dueUnchanged("trim to all", () -> withTape(bytes), x -> x.trim(bytes));
        }
        Check.dueRange("trim", Ships::used, 0, Ships.used().count(13), ARGUMENT, BiscuitMess::trim);
        BiscuitMess x = new BiscuitMess();
        Check.write(x, TWENTY + "mess n men 6proud 5;");
        Check.due("trim to the first line", x.trim(20), 20);
        Check.due("bytes then", x.count(13), 20);
        Check.dueRefused("trim to what was there", () -> {
            BiscuitMess y = withTape(40);
            y.trim(20);
            return y;
        }, ARGUMENT, y -> y.trim(21));
        Check.due("feed behind it", x.feed(number("mess", 0), number(" k m", 0), number("en 4", 0), number("prou", 0), number("d 3;", 0)), 40);
        Check.due("teach", x.teach(), 0);
        Check.dueCounts(x, 0, 1, 0, 0, 2);
        Check.dueMess(x, 0, 8, 7);
        Check.dueMess(x, 1, 4, 3);
        Check.write(x, "mess m men 1 proud 99;");
        x.trim(21);
        Check.due("teach without the last byte", x.teach(), 1);
        Check.due("the end is where it was cut", x.errorAt(), 21);
        trimToEachLength();
    }

    /** What was behind the end is not read, also if it would make a token longer. */
    private static void trimToEachLength() {
        String list = "cask c1 biscuits 10 weevils 20 damp 9;mess m men 10 proud 9;issue m from c1 when 1<=20 and not 10>=20;sift c1 when 12=12;";
        for (int n = 0; n <= list.length(); n++) {
            BiscuitMess x = new BiscuitMess();
            Check.write(x, list);
            x.trim(n);
            BiscuitMess twin = new BiscuitMess();
            Check.write(twin, list.substring(0, n));
            Check.due("teach of " + n + " bytes", x.teach(), twin.teach());
            Check.due("its error is not behind its end", x.errorAt() <= n ? 1 : 0, 1);
            Check.dueSame("a list of " + n + " bytes", x, twin);
        }
    }

    // ---- 4 and 5: teach, errorAt

    private static void teachReplaces() {
        Check.sentence("Reads the tape as a list, in the place of all that was told before (complaints and what was eaten, too, begin anew)");
        String[] lists = {"", "mess m men 3 proud 3;", "cask c biscuits 7 weevils 3 damp 2;", Ships.STORES,
            "cask a biscuits 9 weevils 3 damp 2;cask b biscuits 8 weevils 3 damp 2;mess m men 3 proud 3;issue m from b when got m=0;"};
        for (String before : lists) {
            for (String list : lists) {
                BiscuitMess x = Check.ship(before);
                x.setRation(3);
                x.pass(5);
                x.foresee(3, 0);
                Check.write(x, list);
                Check.due("teach", x.teach(), 0);
                BiscuitMess twin = new BiscuitMess();
                twin.setRation(3);
                twin.pass(5);
                Check.write(twin, list);
                twin.teach();
                Check.dueSame("what is told by " + list + " behind " + before, x, twin);
            }
        }
        BiscuitMess x = Ships.used();
        Check.due("complaints, biscuits and weevils of before", x.count(10) > 0 && x.count(11) > 0 && x.count(12) > 0 ? 1 : 0, 1);
        x.trim(0);
        Check.write(x, Ships.STORES);
        x.teach();
        Check.dueCounts(x, 3, 2, 3, 3, 2, 4, 2, 850, 380, 25, 0, 0, 0, 0);
        Check.dueCask(x, 2, 150, 300, 14, 1, 0);
        Check.dueMess(x, 0, 6, 4, 0, 0, 0, 0, 0);
        Check.dueDouble("mean", x.mean(), 0);
    }

    private static void teachKeeps() {
        Check.sentence("the day and the ration stay");
        for (int days : new int[] {1, 90}) {
            for (int ration : new int[] {0, 9}) {
                BiscuitMess x = new BiscuitMess();
                x.setRation(ration);
                x.pass(days);
                Check.write(x, "cask c biscuits 9 weevils 0 damp 0;sift c when day=" + days + " and ration=" + ration + ";");
                Check.due("teach", x.teach(), 0);
                Check.dueCounts(x, days, ration);
                x.pass(1);
                Check.due("sifted on this day", x.cask(0, 4), 1);
                x.teach();
                Check.dueCounts(x, days + 1, ration);
            }
        }
    }

    private static final String[] WRONG = {"cask k biscuits 5 weevils 5 damp 5", "cask k biscuits 5 weevils 5 damp 5;cask k biscuits 5 weevils 5 damp 5;",
        "cask k biscuits 5 weevils 5 damp 5;sift m when 1=1;", "mess m men 1 proud 1;cask k biscuits 5 weevils 5 damp 5;" + "issue m from k;".repeat(25),
        "cask k biscuits 5 weevils 5 damp 5;mess m men 31 proud 5;"};
    private static final int[] PLACES = {34, 40, 40, 56 + 24 * 15, 46};

    private static void teachWithError() {
        Check.sentence("If it has an error, all stays (but the tape is empty). Returns 0, or the error, 1 to 5");
        for (int i = 0; i < WRONG.length; i++) {
            BiscuitMess x = Ships.used();
            x.trim(0);
            Check.write(x, WRONG[i]);
            Check.due("teach", x.teach(), i + 1);
            Check.due("errorAt", x.errorAt(), PLACES[i]);
            Check.due("bytes", x.count(13), 0);
            BiscuitMess twin = Ships.used();
            twin.trim(0);
            Check.dueSameShip("a list with error " + (i + 1), x, twin);
            // Nor may it touch a list that was told just ahead of it, when no other one has been told.
            BiscuitMess first = Check.ship(Ships.STORES);
            Check.write(first, WRONG[i]);
            first.teach();
            Check.dueCounts(first, 0, 1, 3, 3, 2, 4, 2, 850, 380, 25, 0, 0, 0, 0);
            Check.dueSameShip("a list with error " + (i + 1) + " behind the first one", first, Check.ship(Ships.STORES));
        }
    }

    private static void errorAt() {
        Check.sentence("Returns the position of the error of the latest teach(); -1 if it had none, or there was none");
        BiscuitMess x = new BiscuitMess();
        Check.due("errorAt of a new object", x.errorAt(), -1);
        x.feed(0, 0, 0, 0, 0);
        Check.due("errorAt ahead of teach", x.errorAt(), -1);
        for (int i = 0; i < WRONG.length; i++) {
            x.trim(0);
            Check.write(x, WRONG[i]);
            Check.due("errorAt of the teach before", x.errorAt(), -1);
            x.teach();
            Check.due("errorAt of error " + (i + 1), x.errorAt(), PLACES[i]);
            x.feed(0, 0, 0, 0, 0);
            x.trim(0);
            x.pass(1);
            Check.due("errorAt behind other calls", x.errorAt(), PLACES[i]);
            x.teach();
            Check.due("errorAt of a teach without error", x.errorAt(), -1);
        }
        Check.write(x, "?");
        x.teach();
        Check.due("errorAt at the beginning", x.errorAt(), 0);
        BiscuitMess full = withTape(1999);
        full.trim(1980);
        full.feed(0x20202020, 0x20202020, 0x20202020, 0x20202020, 0x20202063);
        full.teach();
        Check.due("errorAt of the last byte", full.errorAt(), 1999);
    }

    // ---- 6 to 8: count, cask, mess

    private static void count() {
        Check.sentence("count: Throws IndexOutOfBoundsException if what is not 0 to 13");
        Check.dueRange("count", Ships::fresh, 0, 13, INDEX, BiscuitMess::count);
        Check.dueRange("count", Ships::used, 0, 13, INDEX, BiscuitMess::count);
        BiscuitMess x = Check.ship("cask a biscuits 10 weevils 30 damp 4;cask b biscuits 20 weevils 5 damp 8;cask c biscuits 40 weevils 6 damp 9;"
                + "mess m men 9 proud 9;mess n men 2 proud 1;issue m from a;issue n from b;issue m from b;sift a when day=9;throw c when day=0;");
        Check.dueCounts(x, 0, 1, 3, 3, 2, 3, 2, 70, 41, 21, 0, 0, 0, 0);
        x.setRation(2);
        x.pass(1);
        x.feed(0, 0, 0, 0, 0);
        // m takes all 10 of a with 30 weevils, which are too many, and 8 of b with 2; n takes 4 of b with 1.
        Check.dueCounts(x, 1, 2, 3, 2, 2, 3, 2, 8, 3, 21, 1, 22, 33, 20);
        x.fill(2, 5);
        Check.dueCounts(x, 1, 2, 3, 3, 2, 3, 2, 13);
    }

    private static void cask() {
        Check.sentence("cask: Throws IndexOutOfBoundsException if there is no such cask, or what is not 0 to 4");
        Check.dueRange("cask, what", Ships::used, 0, 4, INDEX, (x, what) -> x.cask(0, what));
        Check.dueRange("cask, what of the last one", Ships::used, 0, 4, INDEX, (x, what) -> x.cask(2, what));
        for (int what = 0; what <= 4; what++) {
            int told = what;
            dueCaskRange("cask", (x, cask) -> x.cask(cask, told));
        }
        Check.dueRefused("cask of both wrong", Ships::used, INDEX, x -> x.cask(3, 5));
        Check.dueRefused("cask of both wrong", Ships::used, INDEX, x -> x.cask(-1, -1));
    }

    private static String casks(int casks) {
        StringBuilder text = new StringBuilder("mess m men 1 proud 1;");
        for (int i = 0; i < casks; i++) {
            text.append("cask c").append(i).append(" biscuits 20 weevils 10 damp 5;");
        }
        return text.toString();
    }

    private static String messes(int messes) {
        StringBuilder text = new StringBuilder("cask c biscuits 1 weevils 1 damp 1;");
        for (int i = 0; i < messes; i++) {
            text.append("mess m").append(i).append(" men 3 proud 2;");
        }
        return text.toString();
    }

    /** With no casks, some and all, the numbers of these are answered and no others. */
    private static void dueCaskRange(String what, Check.Question question) {
        for (int casks : new int[] {1, 2, 7, 8}) {
            Check.dueRange(what + " of " + casks, () -> Check.ship(casks(casks)), 0, casks - 1, INDEX, question);
        }
        Check.dueRange(what + " behind a list with an error", Ships::used, 0, 2, INDEX, question);
        for (int cask : new int[] {0, 1, -1, 7, 8, Integer.MIN_VALUE, Integer.MAX_VALUE}) {
            Check.dueRefused(what + " of no casks", Ships::fresh, INDEX, x -> question.ask(x, cask));
            Check.dueRefused(what + " of no casks", () -> Check.ship("mess m men 1 proud 1;"), INDEX, x -> question.ask(x, cask));
        }
        Check.dueRefused(what + " of one that was there before", () -> {
            BiscuitMess x = Check.ship(casks(8));
            Check.write(x, casks(3));
            x.teach();
            return x;
        }, INDEX, x -> question.ask(x, 3));
    }

    private static void dueMessRange(String what, Check.Question question) {
        for (int messes : new int[] {1, 2, 5, 6}) {
            Check.dueRange(what + " of " + messes, () -> Check.ship(messes(messes)), 0, messes - 1, INDEX, question);
        }
        Check.dueRange(what + " behind a list with an error", Ships::used, 0, 1, INDEX, question);
        for (int mess : new int[] {0, 1, -1, 5, 6, Integer.MIN_VALUE, Integer.MAX_VALUE}) {
            Check.dueRefused(what + " of no messes", Ships::fresh, INDEX, x -> question.ask(x, mess));
            Check.dueRefused(what + " of no messes", () -> Check.ship("cask c biscuits 1 weevils 1 damp 1;"), INDEX, x -> question.ask(x, mess));
        }
        Check.dueRefused(what + " of one that was there before", () -> {
            BiscuitMess x = Check.ship(messes(6));
            Check.write(x, messes(3));
            x.teach();
            return x;
        }, INDEX, x -> question.ask(x, 3));
    }

    private static void mess() {
        Check.sentence("mess: Throws IndexOutOfBoundsException if there is no such mess, or what is not 0 to 6");
        Check.dueRange("mess, what", Ships::used, 0, 6, INDEX, (x, what) -> x.mess(0, what));
        Check.dueRange("mess, what of the last one", Ships::used, 0, 6, INDEX, (x, what) -> x.mess(1, what));
        for (int what = 0; what <= 6; what++) {
            int told = what;
            dueMessRange("mess", (x, mess) -> x.mess(mess, told));
        }
        Check.dueRefused("mess of both wrong", Ships::used, INDEX, x -> x.mess(2, 7));
        Check.dueRefused("mess of both wrong", Ships::used, INDEX, x -> x.mess(-1, -1));
    }

    // ---- 9 to 13: tap, setRation, sift, fill, dry

    private static void tap() {
        Check.sentence("tap: if there is no such cask; if biscuits is not 0 to 99; nothing is changed");
        dueCaskRange("tap", (x, cask) -> x.tap(cask, 5));
        for (int cask = 0; cask < 3; cask++) {
            int of = cask;
            Check.dueRange("tap, biscuits", Ships::used, 0, 99, ARGUMENT, (x, biscuits) -> x.tap(of, biscuits));
        }
        BiscuitMess x = Check.ship("cask a biscuits 10 weevils 20 damp 0;");
        Check.due("tap of none", x.tap(0, 0), 0);
        Check.due("tap of 99", x.tap(0, 99), 198);
        Check.dueCask(x, 0, 10, 20, 0, 1, 0);
    }

    private static void setRation() {
        Check.sentence("setRation: if ration is not 0 to 9; Returns the one before");
        Check.dueRange("setRation", Ships::fresh, 0, 9, ARGUMENT, BiscuitMess::setRation);
        Check.dueRange("setRation", Ships::used, 0, 9, ARGUMENT, BiscuitMess::setRation);
        BiscuitMess x = new BiscuitMess();
        int before = 1;
        for (int ration : new int[] {0, 9, 9, 0, 0, 1, 5}) {
            Check.due("setRation(" + ration + ")", x.setRation(ration), before);
            Check.due("count(1)", x.count(1), ration);
            before = ration;
        }
        Check.dueUnchanged("the same ration", Ships::used, y -> y.setRation(2));
    }

    private static void sift() {
        Check.sentence("sift: Returns how many weevils are out by it; if there is no such cask; if it is overboard");
        dueCaskRange("sift", (x, cask) -> {
            if (cask == 2 && x.cask(2, 3) == 0) {
                x.fill(2, 1);
            }
            return x.sift(cask);
        });
        BiscuitMess x = Check.ship("cask a biscuits 0 weevils 0 damp 0;cask b biscuits 19 weevils 1 damp 20;cask c biscuits 999 weevils 9999 damp 0;");
        Check.due("sift of an empty one", x.sift(0), 0);
        Check.dueCask(x, 0, 0, 0, 0, 1, 1);
        Check.due("sift of one weevil", x.sift(1), 1);
        Check.dueCask(x, 1, 18, 0, 20, 1, 1);
        Check.due("sift of the most", x.sift(2), 5000);
        Check.dueCask(x, 2, 900, 4999, 0, 1, 1);
        Check.due("sift again", x.sift(2), 2500);
        Check.dueCask(x, 2, 810, 2499, 0, 1, 2);
        Check.dueCounts(x, 0, 1, 3, 3, 0, 0, 0, 828, 2499, 20, 0, 0, 0, 0);
        Check.dueRefused("sift of one overboard", Ships::used, STATE, y -> y.sift(2));
        BiscuitMess again = Ships.used();
        again.fill(2, 10);
        Check.due("sift of one aboard again", again.sift(2), 0);
        Check.dueCask(again, 2, 9, 0, again.cask(2, 2), 1, 1);
    }

    private static void fill() {
        Check.sentence("fill: if there is no such cask; if biscuits is not 1 to 999; Returns how many it has then, at most 999");
        dueCaskRange("fill", (x, cask) -> x.fill(cask, 1));
        for (int cask = 0; cask < 3; cask++) {
            int of = cask;
            Check.dueRange("fill, biscuits", Ships::used, 1, 999, ARGUMENT, (x, biscuits) -> x.fill(of, biscuits));
        }
        int[][] rows = {{0, 1, 1}, {0, 999, 999}, {1, 998, 999}, {1, 997, 998}, {1, 999, 999}, {998, 1, 999}, {998, 2, 999}, {999, 1, 999}, {999, 999, 999},
            {500, 499, 999}, {500, 500, 999}, {500, 498, 998}};
        for (int[] row : rows) {
            BiscuitMess x = Check.ship("cask a biscuits " + row[0] + " weevils 77 damp 7;");
            Check.due("fill(0, " + row[1] + ") of " + row[0], x.fill(0, row[1]), row[2]);
            Check.dueCask(x, 0, row[2], 77, 7, 1, 0);
        }
    }

    private static void fillAboardAgain() {
        Check.sentence("one that is overboard is aboard again with these");
        for (int biscuits : new int[] {1, 500, 999}) {
            BiscuitMess x = Check.ship("cask a biscuits 90 weevils 9 damp 0;cask b biscuits 700 weevils 7 damp 7;mess m men 3 proud 3;"
                    + "issue m from b;sift b when 1=1;throw b when day=0;");
            x.pass(1);
            Check.dueCask(x, 1, 0, 0, 6, 0, 1);
            Check.due("aboard", x.count(3), 1);
            Check.due("fill", x.fill(1, biscuits), biscuits);
            Check.dueCask(x, 1, biscuits, 0, 6, 1, 1);
            Check.due("aboard", x.count(3), 2);
            x.pass(1);
            int sifted = biscuits - biscuits / 10;
            int left = sifted - Math.min(3, sifted);
            Check.dueCask(x, 1, left, left == 0 ? 0 : 1, 5, 1, 2);
        }
    }

    private static void dry() {
        Check.sentence("dry: Returns how damp it was; it has a damp of 0 then; if there is no such cask");
        dueCaskRange("dry", BiscuitMess::dry);
        for (int damp : new int[] {0, 1, 19, 20}) {
            BiscuitMess x = Check.ship("cask a biscuits 9 weevils 8 damp " + damp + ";cask b biscuits 9 weevils 8 damp 3;");
            Check.due("dry", x.dry(0), damp);
            Check.dueCask(x, 0, 9, 8, 0, 1, 0);
            Check.dueCask(x, 1, 9, 8, 3, 1, 0);
            Check.due("dry again", x.dry(0), 0);
        }
        BiscuitMess x = Ships.used();
        int damp = x.cask(2, 2);
        Check.due("one overboard is damp", damp > 0 ? 1 : 0, 1);
        Check.due("dry of one overboard", x.dry(2), damp);
        Check.dueCask(x, 2, 0, 0, 0, 0, 0);
    }

    // ---- 14: pass

    private static void pass() {
        Check.sentence("pass: Returns how many complaints there are in them; if days is not 1 to 90");
        Check.dueRange("pass", Ships::fresh, 1, 90, ARGUMENT, BiscuitMess::pass);
        Check.dueRange("pass", Ships::used, 1, 90, ARGUMENT, BiscuitMess::pass);
        BiscuitMess x = Check.ship("mess m men 1 proud 1;mess n men 1 proud 1;");
        Check.due("complaints of 1 day", x.pass(1), 2);
        Check.due("day", x.count(0), 1);
        Check.due("complaints of 90 days", x.pass(90), 180);
        Check.due("day", x.count(0), 91);
        Check.due("complaints in all", x.count(10), 182);
        x.setRation(0);
        Check.due("no complaints in them", x.pass(90), 0);
        Check.due("complaints in all", x.count(10), 182);
        BiscuitMess single = Ships.used();
        BiscuitMess whole = Ships.used();
        int complaints = 0;
        for (int i = 0; i < 90; i++) {
            complaints += single.pass(1);
        }
        Check.due("90 days at once", whole.pass(90), complaints);
        Check.dueSame("90 days at once", whole, single);
    }

    // ---- 15 to 19: what would be

    private static String eating(int biscuits, int men) {
        return "cask a biscuits " + biscuits + " weevils 0 damp 0;mess m men " + men + " proud 1;issue m from a;";
    }

    private static void lasts() {
        Check.sentence("Returns behind how many days it has no biscuits, if nothing is done by hand: 0 if it has none, at most 200; -1 if not by then");
        dueCaskRange("lasts", BiscuitMess::lasts);
        int[][] rows = {{0, 1, 0}, {1, 1, 1}, {2, 1, 2}, {1, 2, 1}, {3, 2, 2}, {199, 1, 199}, {200, 1, 200}, {201, 1, -1}, {202, 1, -1},
            {995, 5, 199}, {996, 5, 200}, {999, 5, 200}, {800, 4, 200}, {801, 4, -1}, {999, 1, -1}};
        for (int[] row : rows) {
            Check.due("lasts of " + row[0] + " for " + row[1], Check.ship(eating(row[0], row[1])).lasts(0), row[2]);
        }
        int[][] dayLater = {{0, 0}, {1, 0}, {2, 1}, {200, 199}, {201, 200}, {202, -1}};
        for (int[] row : dayLater) {
            BiscuitMess x = Check.ship(eating(row[0], 1));
            x.pass(1);
            Check.due("lasts of " + row[0] + ", a day later", x.lasts(0), row[1]);
        }
        BiscuitMess thrown = Check.ship("cask a biscuits 9 weevils 0 damp 0;throw a when day=4;");
        Check.due("lasts till it is overboard", thrown.lasts(0), 5);
        thrown.pass(5);
        Check.due("lasts, overboard", thrown.lasts(0), 0);
        thrown.fill(0, 1);
        Check.due("lasts, aboard again", thrown.lasts(0), -1);
    }

    private static void mutiny() {
        Check.sentence("Returns behind how many days it has at least this temper, if nothing is done by hand: 0 if it has it now, at most 200; -1 if not by then");
        dueMessRange("mutiny", (x, mess) -> x.mutiny(mess, 9));
        Check.dueRange("mutiny, temper", Ships::used, 0, 99, ARGUMENT, (x, temper) -> x.mutiny(0, temper));
        Check.dueRange("mutiny, temper", Ships::used, 0, 99, ARGUMENT, (x, temper) -> x.mutiny(1, temper));
        BiscuitMess x = Check.ship("mess m men 1 proud 1;");
        for (int temper = 0; temper <= 99; temper++) {
            Check.due("mutiny at " + temper, x.mutiny(0, temper), (temper + 1) / 2);
        }
        x.pass(4);
        Check.due("at the temper that it has", x.mutiny(0, 8), 0);
        Check.due("at 1 more", x.mutiny(0, 9), 1);
        x.pass(60);
        Check.due("at 99 when it has it", x.mutiny(0, 99), 0);
        int[][] rows = {{198, 1, 199}, {198, 2, 199}, {198, 3, 200}, {198, 4, 200}, {198, 5, -1}, {199, 1, 200}, {199, 2, 200}, {199, 3, -1},
            {200, 1, -1}, {200, 0, 0}, {201, 1, -1}, {0, 1, 1}};
        for (int[] row : rows) {
            BiscuitMess y = Check.ship(eating(row[0], 1));
            Check.due("mutiny at " + row[1] + " with " + row[0] + " biscuits", y.mutiny(0, row[1]), row[2]);
        }
        BiscuitMess good = Check.ship(eating(9, 1) + "mess n men 1 proud 1;issue n from a when day>0;");
        Check.due("mutiny ahead of a good day", good.mutiny(1, 2), 1);
        good.pass(2);
        Check.due("it has been better since", good.mess(1, 2), 1);
        Check.due("no temper of the days before", good.mutiny(1, 2), 4);
    }

    private static void foresee() {
        Check.sentence("foresee: if days is not 1 to 90; if what is not 0 to 4");
        for (int what = 0; what <= 4; what++) {
            int told = what;
            Check.dueRange("foresee, days", Ships::fresh, 1, 90, ARGUMENT, (x, days) -> x.foresee(days, told));
            Check.dueRange("foresee, days", Ships::used, 1, 90, ARGUMENT, (x, days) -> x.foresee(days, told));
        }
        for (int days : new int[] {1, 90}) {
            Check.dueRange("foresee, what", Ships::fresh, 0, 4, INDEX, (x, what) -> x.foresee(days, what));
            Check.dueRange("foresee, what", Ships::used, 0, 4, INDEX, (x, what) -> x.foresee(days, what));
        }
        for (int days : new int[] {1, 2, 89, 90}) {
            BiscuitMess x = Ships.used();
            int[] seen = new int[5];
            for (int what = 0; what < 5; what++) {
                seen[what] = x.foresee(days, what);
            }
            int eaten = x.count(11);
            Check.due("complaints in them", seen[0], x.pass(days));
            Check.due("all biscuits then", seen[1], x.count(7));
            Check.due("all weevils then", seen[2], x.count(8));
            Check.due("biscuits that are eaten in them", seen[3], x.count(11) - eaten);
            Check.due("all tempers then", seen[4], x.mess(0, 2) + x.mess(1, 2));
        }
        BiscuitMess got = Check.ship("cask a biscuits 3 weevils 0 damp 0;cask b biscuits 9 weevils 0 damp 0;mess m men 5 proud 1;"
                + "issue m from a;throw b when got m=3;");
        Check.due("got so far on the day before", got.foresee(1, 1), 9);
        got.pass(1);
        Check.due("got on the day before", got.foresee(1, 1), 0);
    }

    private static void advise() {
        Check.sentence("Looks for the ration with which the fewest complaints come in so many days; 1 to 9, of several the greatest; days 1 to 60");
        Check.dueRange("advise", Ships::fresh, 1, 60, ARGUMENT, BiscuitMess::advise);
        Check.dueRange("advise", Ships::used, 1, 60, ARGUMENT, BiscuitMess::advise);
        Check.due("none complains", Check.ship(eating(999, 1)).advise(60), 9);
        Check.due("all complain", Check.ship("mess m men 1 proud 1;").advise(60), 9);
        for (int ration = 1; ration <= 9; ration++) {
            BiscuitMess x = Check.ship(eating(60 * ration, 1));
            Check.due("biscuits for " + ration, x.advise(60), ration);
            x.setRation(0);
            Check.due("with a ration of 0 now", x.advise(60), ration);
            Check.due("biscuits for a day", Check.ship(eating(ration, 1)).advise(1), ration);
            BiscuitMess y = Check.ship(eating(60 * ration + 59, 1));
            Check.due("1 too few for " + ration + " and 1", y.advise(60), ration);
            BiscuitMess z = Check.ship(eating(999, 1).replace(";issue m from a;", ";issue m from a when ration=" + ration + ";"));
            Check.due("only " + ration + " is issued", z.advise(60), ration);
        }
        Check.due("0 is not looked at", Check.ship("cask a biscuits 999 weevils 0 damp 0;mess m men 1 proud 1;issue m from a when ration=0;").advise(3), 9);
        Check.due("the last day counts", Check.ship(eating(59 * 9 + 8, 1)).advise(60), 8);
        Check.due("and not the next one", Check.ship(eating(59 * 9 + 8, 1)).advise(59), 9);
    }

    private static final String DISGUST = "cask a biscuits 100 weevils 150 damp 0;cask b biscuits 100 weevils 150 damp 0;"
            + "cask c biscuits 100 weevils 150 damp 0;mess m men 10 proud 9;mess n men 10 proud 9;mess o men 10 proud 9;";

    private static void choose() {
        Check.sentence("Returns this, of several the one with the smallest number; -1 if by none fewer come (casks overboard are not looked at); days 1 to 60");
        Check.dueRange("choose", Ships::fresh, 1, 60, ARGUMENT, BiscuitMess::choose);
        Check.dueRange("choose", Ships::used, 1, 60, ARGUMENT, BiscuitMess::choose);
        Check.due("no messes", Check.ship(casks(8)).choose(60), -1);
        Check.due("no issues", Check.ship(DISGUST).choose(60), -1);
        Check.due("all the same", Check.ship(DISGUST + "issue m from a;issue n from b;issue o from c;").choose(1), 0);
        Check.due("the last two the same", Check.ship(DISGUST + "issue n from b;issue o from c;").choose(1), 1);
        Check.due("the first one best", Check.ship(DISGUST + "issue m from a;issue n from a;issue o from b;").choose(1), 0);
        Check.due("the one in the middle best", Check.ship(DISGUST + "issue m from b;issue n from b;issue o from c;").choose(1), 1);
        Check.due("the last one best", Check.ship(DISGUST + "issue m from a;issue n from c;issue o from c;").choose(1), 2);
        Check.due("no one with too many weevils", Check.ship(DISGUST.replace("150", "100") + "issue m from a;issue n from b;issue o from c;").choose(1), -1);
        Check.due("crumbs bring more complaints", Check.ship(eating(10, 10)).choose(1), -1);
        BiscuitMess last = Check.ship("cask a biscuits 100 weevils 29 damp 0;cask b biscuits 100 weevils 29 damp 0;cask c biscuits 100 weevils 29 damp 0;"
                + "mess m men 1 proud 9;issue m from b when day<59 or weevils c<29;");
        Check.due("only the last day is better", last.choose(60), 2);
        Check.due("ahead of it none", last.choose(59), -1);
        BiscuitMess later = Check.ship(DISGUST + "issue m from b;throw b when day=1;");
        Check.due("aboard now, and overboard in these days", later.choose(3), 1);
        BiscuitMess thrown = Check.ship(DISGUST + "issue m from b;throw a when day=0;throw b when day=0;");
        thrown.pass(1);
        Check.due("overboard", thrown.choose(1), -1);
        thrown.fill(0, 9);
        Check.due("aboard again", thrown.choose(60), -1);
    }

    // ---- 20 and 21: mean, digest

    private static void mean() {
        Check.sentence("Returns weevils that were eaten, divided by biscuits that were; 0 without any of these");
        Check.dueDouble("mean of a new object", new BiscuitMess().mean(), 0);
        int[][] rows = {{0, 9, 5}, {9, 0, 5}, {3, 1, 3}, {3, 2, 3}, {7, 22, 7}, {1, 9999, 1}, {999, 9999, 30}, {100, 33, 1}};
        for (int[] row : rows) {
            BiscuitMess x = Check.ship("cask a biscuits " + row[0] + " weevils " + row[1] + " damp 0;mess m men " + row[2] + " proud 1;issue m from a;");
            Check.dueDouble("mean ahead of the first day", x.mean(), 0);
            x.pass(1);
            int biscuits = Math.min(row[0], row[2]);
            double due = biscuits == 0 ? 0 : (double) (row[1] * biscuits / row[0]) / biscuits;
            Check.dueDouble("mean of " + row[1] + " in " + row[0], x.mean(), due);
            Check.due("it is no -0.0", Double.doubleToLongBits(x.mean()) < 0 ? 1 : 0, 0);
        }
    }

    private static void digest() {
        Check.sentence("A number d starts with 787; for each of the following numbers x, d becomes d * 31 + x, which wraps around as a 64-bit integer");
        BiscuitMess[] ships = {Ships.fresh(), Ships.used(), Ships.full(), Check.ship(""), Check.ship(casks(8)), Check.ship(messes(6)), Check.ship(casks(1)), Check.ship(messes(1))};
        boolean negative = false;
        boolean positive = false;
        for (BiscuitMess x : ships) {
            for (int day = 0; day < 5; day++) {
                Check.due("digest", x.digest(), digestOf(x));
                negative |= x.digest() < 0;
                positive |= x.digest() > 0;
                x.pass(1);
            }
        }
        Check.due("some wrapped around to each side", negative && positive ? 1 : 0, 1);
    }

    private static long digestOf(BiscuitMess x) {
        List<Integer> all = new ArrayList<>();
        for (int what = 0; what <= 13; what++) {
            all.add(x.count(what));
        }
        for (int cask = 0; cask < x.count(2); cask++) {
            for (int what = 0; what <= 4; what++) {
                all.add(x.cask(cask, what));
            }
            all.add(x.tap(cask, 5));
        }
        for (int mess = 0; mess < x.count(4); mess++) {
            for (int what = 0; what <= 6; what++) {
                all.add(x.mess(mess, what));
            }
        }
        BigInteger d = BigInteger.valueOf(787);
        for (int number : all) {
            d = d.multiply(BigInteger.valueOf(31)).add(BigInteger.valueOf(number));
        }
        return d.longValue();
    }

    // ---- all of them

    private static void firstNamed() {
        Check.sentence("If several exceptions apply, the one that is named first is thrown");
        int[] wrong = {-1, 1000, Integer.MIN_VALUE, Integer.MAX_VALUE};
        for (int a : wrong) {
            for (int b : wrong) {
                Check.dueRefused("tap(" + a + ", " + b + ")", Ships::used, INDEX, x -> x.tap(a, b));
                Check.dueRefused("fill(" + a + ", " + b + ")", Ships::used, INDEX, x -> x.fill(a, b));
                Check.dueRefused("mutiny(" + a + ", " + b + ")", Ships::used, INDEX, x -> x.mutiny(a, b));
                Check.dueRefused("foresee(" + a + ", " + b + ")", Ships::used, ARGUMENT, x -> x.foresee(a, b));
            }
        }
        Check.dueRefused("tap just outside", Ships::used, INDEX, x -> x.tap(3, 100));
        Check.dueRefused("fill just outside", Ships::used, INDEX, x -> x.fill(3, 0));
        Check.dueRefused("mutiny just outside", Ships::used, INDEX, x -> x.mutiny(2, 100));
        Check.dueRefused("foresee just outside", Ships::used, ARGUMENT, x -> x.foresee(0, 5));
        Check.dueRefused("foresee just outside", Ships::used, ARGUMENT, x -> x.foresee(91, -1));
        Check.dueRefused("sift of no cask, one of which is overboard", Ships::used, INDEX, x -> x.sift(3));
        Check.dueRefused("fill of one overboard", Ships::used, ARGUMENT, x -> x.fill(2, 0));
        Check.dueRefused("fill of one overboard", Ships::used, ARGUMENT, x -> x.fill(2, 1000));
    }

    private static void nothingIsChanged() {
        Check.sentence("(nothing is changed)");
        for (int cask = 0; cask < 3; cask++) {
            int of = cask;
            Check.dueUnchanged("tap", Ships::used, x -> x.tap(of, 99));
            Check.dueUnchanged("lasts", Ships::used, x -> x.lasts(of));
            Check.dueUnchanged("cask", Ships::used, x -> x.cask(of, 0));
        }
        for (int what = 0; what <= 4; what++) {
            int told = what;
            Check.dueUnchanged("foresee", Ships::used, x -> x.foresee(1, told));
            Check.dueUnchanged("foresee", Ships::full, x -> x.foresee(90, told));
        }
        for (int what = 0; what <= 13; what++) {
            int told = what;
            Check.dueUnchanged("count", Ships::used, x -> x.count(told));
        }
        Check.dueUnchanged("mutiny", Ships::used, x -> x.mutiny(0, 99));
        Check.dueUnchanged("mutiny", Ships::used, x -> x.mutiny(1, 0));
        Check.dueUnchanged("mess", Ships::used, x -> x.mess(1, 6));
        Check.dueUnchanged("advise", Ships::used, x -> x.advise(1));
        Check.dueUnchanged("advise", Ships::used, x -> x.advise(60));
        Check.dueUnchanged("choose", Ships::used, x -> x.choose(1));
        Check.dueUnchanged("choose", Ships::used, x -> x.choose(60));
        Check.dueUnchanged("mean", Ships::used, BiscuitMess::mean);
        Check.dueUnchanged("digest", Ships::used, BiscuitMess::digest);
        Check.dueUnchanged("errorAt", Ships::used, BiscuitMess::errorAt);
    }

    private static void manyCalls() {
        Check.sentence("An object is used for at most 512 calls after it has been made");
        BiscuitMess x = Check.ship(casks(8));
        for (int i = 1; i <= 240; i++) {
            Check.due("complaints of 90 days, call " + i, x.pass(90), 90);
            Check.due("day", x.count(0), 90 * i);
        }
        BiscuitMess y = new BiscuitMess();
        for (int lists = 0; lists < 4; lists++) {
            for (int i = 1; i <= 100; i++) {
                Check.due("feed", y.feed(0x20202020, 0x20202020, 0x20202020, 0x20202020, i < 100 ? 0x20202020 : 0x2020203f), 20 * i);
            }
            Check.due("teach", y.teach(), 1);
            Check.due("errorAt", y.errorAt(), 1999);
        }
        BiscuitMess often = new BiscuitMess();
        for (int i = 0; i < 20; i++) {
            Check.write(often, "cask c biscuits 9 weevils 0 damp 0;sift c when 1" + "+1".repeat(90) + "=91;throw c when 1" + "+1".repeat(90) + "=92;");
            Check.due("teach, time " + i, often.teach(), 0);
            often.pass(1);
            Check.dueCask(often, 0, 9, 0, 0, 1, 1);
        }
        BiscuitMess z = Ships.used();
        long now = z.choose(60) * 1000L + z.advise(60);
        for (int i = 0; i < 100; i++) {
            Check.due("choose and advise again", z.choose(60) * 1000L + z.advise(60), now);
        }
    }

    private static void objectsApart() {
        Check.sentence("Creates a ship");
        BiscuitMess x = Ships.used();
        BiscuitMess y = Check.ship(casks(8));
        y.feed(1, 2, 3, 4, 5);
        y.setRation(9);
        y.pass(50);
        y.choose(20);
        Check.dueSame("another object", x, Ships.used());
    }
}
