/** All promises: random runs, in which the program has to answer what the model answers. */
public final class ModelTest {
    private static final int RUNS = 1500;
    private static final int INDEX = -1001;
    private static final int ARGUMENT = -1002;
    private static final int STATE = -1003;
    private static final int OTHER = -1004;
    private static final String[] TOKENS = {"cask", "biscuits", "weevils", "damp", "mess", "men", "proud", "issue", "from",
        "when", "sift", "throw", "day", "ration", "temper", "got", "taps", "not", "and", "or", "min", "max", "(", ")", "[", "]",
        ";", ",", "+", "-", "*", "/", "<", ">", "=", "<=", ">=", "a", "b", "m", "zz9", "x1234567890", "0", "7", "31", "1000",
        "999999", "1000000", "?", "A", "\t", ""};

    private static long seed = 20261119;
    private static int[] errors = new int[6];

    private static int random(int below) {
        seed = seed * 6364136223846793005L + 1442695040888963407L;
        return (int) ((seed >>> 33) % below);
    }

    private static boolean oneIn(int n) {
        return random(n) == 0;
    }

    private static String pick(String... texts) {
        return texts[random(texts.length)];
    }

    // ---- lists

    private static int casks;
    private static int messes;

    private static String caskName() {
        return oneIn(300) ? pick("a9", "q", "m0") : "c" + (casks == 0 ? 0 : random(casks));
    }

    private static String messName() {
        return oneIn(300) ? pick("c9", "q", "a0") : "m" + (messes == 0 ? 0 : random(messes));
    }

    private static String value(int deep) {
        switch (random(deep > 0 ? 15 : 9)) {
            case 0: return "day";
            case 1: return "ration";
            case 2:
            case 3:
            case 4: return pick("biscuits ", "weevils ", "damp ", "taps ", "taps ") + caskName();
            case 5:
            case 6: return pick("men ", "temper ", "got ") + messName();
            case 7: return "" + random(12);
            case 8: return "" + random(oneIn(3) ? 1000000 : 200);
            case 9:
            case 10: return "-" + value(deep - 1);
            case 11:
            case 12: return "(" + sum(deep - 1) + ")";
            default: return pick("min", "max") + "(" + sum(deep - 1) + "," + sum(deep - 1) + ")";
        }
    }

    private static String sum(int deep) {
        StringBuilder text = new StringBuilder(value(deep));
        while (oneIn(3)) {
            text.append(pick("+", "-", "*", "/", " - ", " +")).append(value(deep));
        }
        return text.toString();
    }

    private static String single(int deep) {
        if (deep > 0 && oneIn(5)) {
            return "not " + single(deep - 1);
        }
        if (deep > 0 && oneIn(5)) {
            return "[" + test(deep - 1) + "]";
        }
        return sum(deep) + pick("<", ">", "=", "<=", ">=", " < ", ">=\n") + sum(deep);
    }

    private static String test(int deep) {
        StringBuilder text = new StringBuilder(single(deep));
        while (oneIn(3)) {
            text.append(pick(" and ", " or ")).append(single(deep));
        }
        return text.toString();
    }

    private static int deep() {
        return oneIn(6) ? 8 + (oneIn(10) ? 2 : 0) : random(4);
    }

    private static String list() {
        StringBuilder text = new StringBuilder();
        casks = 0;
        messes = 0;
        int most = 1 + random(8) + (oneIn(20) ? 3 : 0);
        int mostMesses = 1 + random(6) + (oneIn(20) ? 3 : 0);
        for (int i = 0; i < most; i++) {
            text.append("cask ").append(oneIn(200) ? caskName() : "c" + i).append(" biscuits ").append(random(oneIn(100) ? 1100 : 999));
            text.append(" weevils ").append(random(oneIn(3) ? 10000 + random(20) : 300)).append(" damp ");
            text.append(random(oneIn(50) ? 25 : 21)).append(pick(";", ";\n", " ; "));
            casks++;
        }
        for (int i = 0; i < mostMesses; i++) {
            text.append("mess ").append(oneIn(200) ? messName() : "m" + i).append(" men ").append(1 + random(oneIn(100) ? 33 : 30));
            text.append(" proud ").append(oneIn(50) ? random(12) : 1 + random(9)).append(";");
            messes++;
        }
        int lines = random(oneIn(8) ? 45 : 20);
        boolean sifts = oneIn(5);
        for (int i = 0; i < lines && text.length() < 1900; i++) {
            if (oneIn(sifts ? 2 : 3)) {
                text.append(pick("sift ", "sift ", "sift ", "throw ")).append(caskName()).append(" when ");
                text.append(oneIn(2) ? pick("day=", "day>") + random(40) : test(deep())).append(";");
            } else {
                text.append("issue ").append(messName()).append(" from ").append(caskName());
                text.append(oneIn(2) ? "" : " when " + test(deep())).append(";");
            }
        }
        return oneIn(4) ? spoil(text) : text.toString();
    }

    private static String spoil(StringBuilder text) {
        int times = 1 + random(2);
        for (int i = 0; i < times; i++) {
            int at = random(text.length() + 1);
            int end = Math.min(text.length(), at + random(4));
            text.replace(at, end, (oneIn(2) ? " " : "") + TOKENS[random(TOKENS.length)] + (oneIn(2) ? " " : ""));
        }
        if (oneIn(6)) {
            text.setLength(random(text.length() + 1));
        }
        return text.toString();
    }

    /** Tokens at random, mostly behind the beginning of a line. */
    private static String noise() {
        StringBuilder text = new StringBuilder(pick("cask a biscuits 1 weevils 2 damp 3;mess m men 4 proud 5;", ""));
        text.append(pick("sift a when ", "issue m from a when ", "sift a when min(1,", "throw a when not [", "", "cask b "));
        int tokens = 1 + random(6);
        for (int i = 0; i < tokens; i++) {
            text.append(TOKENS[random(TOKENS.length)]).append(pick(" ", " ", "\n", ""));
        }
        return text.toString();
    }

    // ---- calls

    private static int number(int most) {
        return oneIn(12) ? pick("-1", "-2147483648", "2147483647", "100", "1000", "61", "91", "0").length() > 3
                ? (oneIn(2) ? Integer.MIN_VALUE : Integer.MAX_VALUE) : random(3) - 1 + most : random(most + 1);
    }

    private static boolean within(int number, int least, int most) {
        return number >= least && number <= most;
    }

    private static int answer(BiscuitMess x, int call, int a, int b) {
        try {
            switch (call) {
                case 0: return x.tap(a, b);
                case 1: return x.setRation(a);
                case 2: return x.sift(a);
                case 3: return x.fill(a, b);
                case 4: return x.dry(a);
                case 5: return x.pass(a);
                case 6: return x.lasts(a);
                case 7: return x.mutiny(a, b);
                case 8: return x.foresee(a, b);
                case 9: return x.advise(a);
                case 10: return x.choose(a);
                case 11: return x.trim(a);
                default: return x.errorAt();
            }
        } catch (RuntimeException e) {
            return numberOf(e.getClass());
        }
    }

    /** Just these classes: what the machine throws stands below them. */
    private static int numberOf(Class<?> thrown) {
        if (thrown == IndexOutOfBoundsException.class) {
            return INDEX;
        }
        if (thrown == IllegalArgumentException.class) {
            return ARGUMENT;
        }
        return thrown == IllegalStateException.class ? STATE : OTHER;
    }

    private static int due(Model m, int call, int a, int b) {
        boolean cask = within(a, 0, m.casks.size() - 1);
        boolean mess = within(a, 0, m.messes.size() - 1);
        switch (call) {
            case 0: return !cask ? INDEX : !within(b, 0, 99) ? ARGUMENT : m.tap(a, b);
            case 1:
                int before = (int) m.ration;
                m.ration = within(a, 0, 9) ? a : before;
                return within(a, 0, 9) ? before : ARGUMENT;
            case 2: return !cask ? INDEX : !m.casks.get(a).aboard ? STATE : m.sift(a);
            case 3: return !cask ? INDEX : !within(b, 1, 999) ? ARGUMENT : m.fill(a, b);
            case 4:
                int damp = cask ? (int) m.casks.get(a).damp : INDEX;
                if (cask) {
                    m.casks.get(a).damp = 0;
                }
                return damp;
            case 5: return within(a, 1, 90) ? m.pass(a) : ARGUMENT;
            case 6: return !cask ? INDEX : m.lasts(a);
            case 7: return !mess ? INDEX : !within(b, 0, 99) ? ARGUMENT : m.mutiny(a, b);
            case 8: return !within(a, 1, 90) ? ARGUMENT : !within(b, 0, 4) ? INDEX : m.foresee(a, b);
            case 9: return !within(a, 1, 60) ? ARGUMENT : m.advise(a);
            case 10: return !within(a, 1, 60) ? ARGUMENT : m.choose(a);
            case 11:
                boolean right = within(a, 0, m.tape.length());
                m.tape = right ? m.tape.substring(0, a) : m.tape;
                return right ? a : ARGUMENT;
            default: return m.errorAt;
        }
    }

    private static void teach(BiscuitMess x, Model m, String text) {
        String fits = text.length() > 2000 ? text.substring(0, 2000) : text;
        Check.write(x, fits);
        m.tape = fits;
        int error = m.teach();
        errors[error]++;
        Check.due("teach of " + fits, x.teach(), error);
        Check.due("errorAt of " + fits, x.errorAt(), m.errorAt);
    }

    private static void run(int run) {
        BiscuitMess x = new BiscuitMess();
        Model m = new Model();
        for (int lists = 0; lists < 3; lists++) {
            String text = list();
            teach(x, m, text);
            for (int i = 0; i < 12; i++) {
                int call = random(13);
                boolean far = call == 5 || call >= 8 && call <= 10;
                int a = far ? (oneIn(2) ? number(12) : number(62)) : number(call == 1 ? 9 : 7);
                int b = number(call == 8 ? 4 : call == 3 ? 999 : 99);
                int due = due(m, call, a, b);
                String what = "run " + run + ", call " + call + " of " + a + ", " + b;
                Check.due(what, answer(x, call, a, b), due);
                Check.due("digest behind " + what, x.digest(), m.digest());
                Check.dueDouble("mean behind " + what, x.mean(), m.mean());
            }
        }
        for (int i = 0; i < 20; i++) {
            teach(x, m, noise());
        }
    }

    public static void main(String[] args) {
        for (int run = 0; run < RUNS; run++) {
            run(run);
        }
        System.out.println("lists by error: " + java.util.Arrays.toString(errors));
        Check.end("ModelTest");
    }
}
