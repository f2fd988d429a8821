/** The biscuit stores of a ship: it is told orders as a text, lets days go by, and foresees them. */
public final class BiscuitMess {

    private static final int TAPE_BYTES = 2000;
    private static final int TOKENS = 400;
    private static final int DEPTH = 8;
    private static final int CASKS = 8;
    private static final int MESSES = 6;
    private static final int ISSUES = 24;
    private static final int INSPECTIONS = 12;

    private static final int MOST_BISCUITS = 999;
    private static final int MOST_TEMPER = 99;
    private static final int TAPS = 5;
    private static final int PASS_DAYS = 90;
    private static final int ADVICE_DAYS = 60;
    private static final int SIGHT_DAYS = 200;

    // A symbol of one byte is its own kind; so the other kinds stay below 32 or above 127.
    private static final int END = 0;
    private static final int BAD = 1;
    private static final int NAME = 2;
    private static final int NUMBER = 3;
    private static final int AT_MOST = 4;
    private static final int AT_LEAST = 5;
    private static final int NEGATIVE = 6;
    private static final String SYMBOLS = "()[];,+-*/<>=";

    private static final int FIRST_KEYWORD = 128;
    private static final int CASK = 128;
    private static final int BISCUITS = 129;
    private static final int WEEVILS = 130;
    private static final int DAMP = 131;
    private static final int MESS = 132;
    private static final int MEN = 133;
    private static final int PROUD = 134;
    private static final int ISSUE = 135;
    private static final int FROM = 136;
    private static final int WHEN = 137;
    private static final int SIFT = 138;
    private static final int THROW = 139;
    private static final int DAY = 140;
    private static final int RATION = 141;
    private static final int TEMPER = 142;
    private static final int GOT = 143;
    private static final int TAPS_OF = 144;
    private static final int NOT = 145;
    private static final int AND = 146;
    private static final int OR = 147;
    private static final int MIN = 148;
    private static final int MAX = 149;
    private static final int KEYWORDS = 22;
    /** In the order of their kinds, each with a blank behind it. */
    private static final String KEYWORD_TEXT =
            "cask biscuits weevils damp mess men proud issue from when sift throw day ration temper got taps not and or min max ";

    // What cask() tells.
    private static final int OF_CASK = 5;
    private static final int CASK_BISCUITS = 0;
    private static final int CASK_WEEVILS = 1;
    private static final int CASK_DAMP = 2;
    private static final int CASK_ABOARD = 3;
    private static final int CASK_SIFTED = 4;

    // What mess() tells; the weevils eaten in all are beyond that.
    private static final int OF_MESS = 7;
    private static final int MESS_MEN = 0;
    private static final int MESS_PROUD = 1;
    private static final int MESS_TEMPER = 2;
    private static final int MESS_GOT = 3;
    private static final int MESS_WEEVILS = 4;
    private static final int MESS_COMPLAINTS = 5;
    private static final int MESS_EATEN = 6;
    private static final int MESS_WEEVILS_EATEN = 7;

    private static final int OF_COUNT = 14;

    private final Reader reader = new Reader();
    private int errorAt = -1;
    private final Ship ship = new Ship();
    private Plan plan = new Plan();
    /** Where it is tried out what would be. */
    private final Ship trial = new Ship();

    public BiscuitMess() {
    }

    // ---- the language

    public int feed(int a, int b, int c, int d, int e) throws IllegalStateException {
        Tape tape = reader.tape;
        if (tape.length > TAPE_BYTES - 20) {
            throw new IllegalStateException("the tape is full");
        }
        tape.append(a);
        tape.append(b);
        tape.append(c);
        tape.append(d);
        tape.append(e);
        return tape.length;
    }

    public int trim(int n) throws IllegalArgumentException {
        if (n < 0 || n > reader.tape.length) {
            throw new IllegalArgumentException("not a length of the tape");
        }
        reader.tape.length = n;
        return n;
    }

    public int teach() {
        int error = reader.read();
        reader.tape.length = 0;
        errorAt = error == 0 ? -1 : reader.position();
        if (error == 0) {
            plan = reader.exchange(plan);
            ship.copyStores(reader.ship);
        }
        return error;
    }

    public int errorAt() {
        return errorAt;
    }

    public int count(int what) throws IndexOutOfBoundsException {
        if (what < 0 || what >= OF_COUNT) {
            throw new IndexOutOfBoundsException("nothing to count");
        }
        return counted(what);
    }

    private int counted(int what) {
        switch (what) {
            case 0: return ship.day;
            case 1: return ship.ration;
            case 2: return ship.casks;
            case 3: return ship.ofCasks(CASK_ABOARD);
            case 4: return ship.messes;
            case 5: return plan.issues;
            case 6: return plan.inspections;
            case 7: return ship.ofCasks(CASK_BISCUITS);
            case 8: return ship.ofCasks(CASK_WEEVILS);
            case 9: return ship.ofCasks(CASK_DAMP);
            case 10: return ship.ofMesses(MESS_COMPLAINTS);
            case 11: return ship.ofMesses(MESS_EATEN);
            case 12: return ship.ofMesses(MESS_WEEVILS_EATEN);
            default: return reader.tape.length;
        }
    }

    // ---- casks and messes

    public int cask(int cask, int what) throws IndexOutOfBoundsException {
        if (!ship.hasCask(cask) || what < 0 || what >= OF_CASK) {
            throw new IndexOutOfBoundsException("no such cask, or nothing to tell of it");
        }
        return ship.caskAt(cask).told(what);
    }

    public int mess(int mess, int what) throws IndexOutOfBoundsException {
        if (!ship.hasMess(mess) || what < 0 || what >= OF_MESS) {
            throw new IndexOutOfBoundsException("no such mess, or nothing to tell of it");
        }
        return ship.messAt(mess).told(what);
    }

    public int tap(int cask, int biscuits) throws IndexOutOfBoundsException, IllegalArgumentException {
        if (!ship.hasCask(cask)) {
            throw new IndexOutOfBoundsException("no such cask");
        }
        if (biscuits < 0 || biscuits > 99) {
            throw new IllegalArgumentException("biscuits are not 0 to 99");
        }
        return ship.caskAt(cask).tapped(biscuits);
    }

    // ---- by hand

    public int setRation(int ration) throws IllegalArgumentException {
        if (ration < 0 || ration > 9) {
            throw new IllegalArgumentException("the ration is not 0 to 9");
        }
        int before = ship.ration;
        ship.ration = ration;
        return before;
    }

    public int sift(int cask) throws IndexOutOfBoundsException, IllegalStateException {
        if (!ship.hasCask(cask)) {
            throw new IndexOutOfBoundsException("no such cask");
        }
        if (!ship.caskAt(cask).aboard) {
            throw new IllegalStateException("the cask is overboard");
        }
        return ship.caskAt(cask).siftOnce();
    }

    public int fill(int cask, int biscuits) throws IndexOutOfBoundsException, IllegalArgumentException {
        if (!ship.hasCask(cask)) {
            throw new IndexOutOfBoundsException("no such cask");
        }
        if (biscuits < 1 || biscuits > MOST_BISCUITS) {
            throw new IllegalArgumentException("biscuits are not 1 to 999");
        }
        return ship.caskAt(cask).putIn(biscuits);
    }

    public int dry(int cask) throws IndexOutOfBoundsException {
        if (!ship.hasCask(cask)) {
            throw new IndexOutOfBoundsException("no such cask");
        }
        int before = ship.caskAt(cask).damp;
        ship.caskAt(cask).damp = 0;
        return before;
    }

    // ---- days

    public int pass(int days) throws IllegalArgumentException {
        if (days < 1 || days > PASS_DAYS) {
            throw new IllegalArgumentException("days are not 1 to 90");
        }
        return complaintsIn(ship, days);
    }

    private int complaintsIn(Ship sailing, int days) {
        int before = sailing.ofMesses(MESS_COMPLAINTS);
        for (int i = 0; i < days; i++) {
            sailing.passDay(plan);
        }
        return sailing.ofMesses(MESS_COMPLAINTS) - before;
    }

    // ---- what would be

    public int lasts(int cask) throws IndexOutOfBoundsException {
        if (!ship.hasCask(cask)) {
            throw new IndexOutOfBoundsException("no such cask");
        }
        trial.copy(ship);
        for (int days = 0; days < SIGHT_DAYS; days++) {
            if (trial.caskAt(cask).biscuits == 0) {
                return days;
            }
            trial.passDay(plan);
        }
        return trial.caskAt(cask).biscuits == 0 ? SIGHT_DAYS : -1;
    }

    public int mutiny(int mess, int temper) throws IndexOutOfBoundsException, IllegalArgumentException {
        if (!ship.hasMess(mess)) {
            throw new IndexOutOfBoundsException("no such mess");
        }
        if (temper < 0 || temper > MOST_TEMPER) {
            throw new IllegalArgumentException("the temper is not 0 to 99");
        }
        trial.copy(ship);
        for (int days = 0; days < SIGHT_DAYS; days++) {
            if (trial.messAt(mess).temper >= temper) {
                return days;
            }
            trial.passDay(plan);
        }
        return trial.messAt(mess).temper >= temper ? SIGHT_DAYS : -1;
    }

    public int foresee(int days, int what) throws IllegalArgumentException, IndexOutOfBoundsException {
        if (days < 1 || days > PASS_DAYS) {
            throw new IllegalArgumentException("days are not 1 to 90");
        }
        if (what < 0 || what > 4) {
            throw new IndexOutOfBoundsException("nothing to foresee");
        }
        trial.copy(ship);
        int complaints = complaintsIn(trial, days);
        switch (what) {
            case 0: return complaints;
            case 1: return trial.ofCasks(CASK_BISCUITS);
            case 2: return trial.ofCasks(CASK_WEEVILS);
            case 3: return trial.ofMesses(MESS_EATEN) - ship.ofMesses(MESS_EATEN);
            default: return trial.ofMesses(MESS_TEMPER);
        }
    }

    public int advise(int days) throws IllegalArgumentException {
        if (days < 1 || days > ADVICE_DAYS) {
            throw new IllegalArgumentException("days are not 1 to 60");
        }
        int best = 1;
        int fewest = Integer.MAX_VALUE;
        for (int ration = 1; ration <= 9; ration++) {
            trial.copy(ship);
            trial.ration = ration;
            int complaints = complaintsIn(trial, days);
            if (complaints <= fewest) {
                fewest = complaints;
                best = ration;
            }
        }
        return best;
    }

    public int choose(int days) throws IllegalArgumentException {
        if (days < 1 || days > ADVICE_DAYS) {
            throw new IllegalArgumentException("days are not 1 to 60");
        }
        trial.copy(ship);
        int best = -1;
        int fewest = complaintsIn(trial, days);
        for (int cask = 0; cask < ship.casks; cask++) {
            if (ship.caskAt(cask).aboard) {
                trial.copy(ship);
                trial.caskAt(cask).siftOnce();
                int complaints = complaintsIn(trial, days);
                if (complaints < fewest) {
                    fewest = complaints;
                    best = cask;
                }
            }
        }
        return best;
    }

    public double mean() {
        int biscuits = ship.ofMesses(MESS_EATEN);
        return biscuits == 0 ? 0 : (double) ship.ofMesses(MESS_WEEVILS_EATEN) / biscuits;
    }

    public long digest() {
        long d = 787;
        for (int what = 0; what < OF_COUNT; what++) {
            d = d * 31 + counted(what);
        }
        for (int cask = 0; cask < ship.casks; cask++) {
            for (int what = 0; what < OF_CASK; what++) {
                d = d * 31 + ship.caskAt(cask).told(what);
            }
            d = d * 31 + ship.caskAt(cask).tapped(TAPS);
        }
        for (int mess = 0; mess < ship.messes; mess++) {
            for (int what = 0; what < OF_MESS; what++) {
                d = d * 31 + ship.messAt(mess).told(what);
            }
        }
        return d;
    }

    private static final class Tape {
        private final byte[] bytes = new byte[TAPE_BYTES];
        private int length = 0;

        /** Appends its four bytes, the highest one first. */
        void append(int number) {
            for (int shift = 24; shift >= 0; shift -= 8) {
                if (length >= 0 && length < TAPE_BYTES) {
                    bytes[length] = (byte) (number >>> shift);
                    length++;
                }
            }
        }

        int byteAt(int at) {
            return at >= 0 && at < length && at < TAPE_BYTES ? bytes[at] : -1;
        }
    }

    /** Cuts the tape into tokens. */
    private static final class Tokens {
        private final int[] kinds = new int[TOKENS + 1];
        private final int[] starts = new int[TOKENS + 1];
        /** Of a number its value, of a word its key. */
        private final long[] values = new long[TOKENS + 1];
        private final long[] keywordKeys = new long[KEYWORDS];
        // The token that was scanned last.
        private int kind = BAD;
        private int end = 0;
        private long value = 0;

        Tokens() {
            int number = 0;
            long key = 0;
            for (int i = 0; i < KEYWORD_TEXT.length(); i++) {
                int sign = KEYWORD_TEXT.charAt(i);
                if (sign != ' ') {
                    key = longerKey(key, sign);
                } else if (number < KEYWORDS) {
                    keywordKeys[number] = key;
                    number++;
                    key = 0;
                }
            }
        }

        /** The last token is END or BAD: what stands behind a BAD one never matters. */
        void cut(Tape tape) {
            end = 0;
            for (int n = 0; n <= TOKENS; n++) {
                int start = behindBlanks(tape, end);
                starts[n] = start;
                kinds[n] = start < tape.length ? BAD : END;
                if (n == TOKENS || start >= tape.length) {
                    return;
                }
                scan(tape, start);
                kinds[n] = kind;
                values[n] = value;
                if (kind == BAD) {
                    return;
                }
            }
        }

        private int behindBlanks(Tape tape, int from) {
            int at = from;
            while (at < tape.length && (tape.byteAt(at) == ' ' || tape.byteAt(at) == '\n')) {
                at++;
            }
            return at;
        }

        private void scan(Tape tape, int start) {
            int sign = tape.byteAt(start);
            kind = BAD;
            end = start + 1;
            if (isLetter(sign)) {
                scanWord(tape, start);
            } else if (isDigit(sign)) {
                scanNumber(tape, start);
            } else if ((sign == '<' || sign == '>') && tape.byteAt(end) == '=') {
                kind = sign == '<' ? AT_MOST : AT_LEAST;
                end = start + 2;
            } else if (sign > 0 && SYMBOLS.indexOf((char) sign) >= 0) {
                kind = sign;
            }
        }

        private void scanWord(Tape tape, int start) {
            value = 0;
            end = start;
            while (end < tape.length && (isLetter(tape.byteAt(end)) || isDigit(tape.byteAt(end)))) {
                value = longerKey(value, tape.byteAt(end));
                end++;
            }
            if (end - start <= 10) {
                kind = kindOfWord(value);
            }
        }

        private void scanNumber(Tape tape, int start) {
            value = 0;
            end = start;
            while (end < tape.length && isDigit(tape.byteAt(end))) {
                value = value * 10 + (tape.byteAt(end) - '0');
                end++;
            }
            if (end - start <= 6) {
                kind = NUMBER;
            }
        }

        private int kindOfWord(long key) {
            for (int i = 0; i < KEYWORDS; i++) {
                if (keywordKeys[i] == key) {
                    return FIRST_KEYWORD + i;
                }
            }
            return NAME;
        }

        private static boolean isLetter(int sign) {
            return sign >= 'a' && sign <= 'z';
        }

        private static boolean isDigit(int sign) {
            return sign >= '0' && sign <= '9';
        }

        /** Up to 10 letters and digits fit into a long, so that words are the same if their keys are. */
        private static long longerKey(long key, int sign) {
            return key * 37 + (isDigit(sign) ? sign - '0' + 27 : sign - 'a' + 1);
        }

        int startAt(int n) {
            return n >= 0 && n <= TOKENS ? starts[n] : 0;
        }

        long valueAt(int n) {
            return n >= 0 && n <= TOKENS ? values[n] : 0;
        }
    }

    /** Has the tape, and reads it as a list into a plan and a ship, which are handed over if it has no error. */
    private static final class Reader {
        private final Tape tape = new Tape();
        private final Tokens tokens = new Tokens();
        private final Ship ship = new Ship();
        private Plan plan = new Plan();
        private final long[] caskNames = new long[CASKS];
        private final long[] messNames = new long[MESSES];
        /** The number of the token that is looked at. */
        private int next = 0;
        // The first of the errors 2 to 5.
        private int fault = 0;
        private int faultToken = 0;

        /** Returns 0 or the error; its place is position() then. */
        int read() {
            tokens.cut(tape);
            plan.clear();
            ship.clear();
            next = 0;
            fault = 0;
            for (int lines = 0; lines < TOKENS && kind() != END; lines++) {
                if (!line() || !accept(';')) {
                    fault = 1;
                    faultToken = next;
                    return fault;
                }
            }
            return fault;
        }

        int position() {
            return tokens.startAt(faultToken);
        }

        /** Hands out the plan that was read, and takes another one for the next time. */
        Plan exchange(Plan old) {
            Plan fresh = plan;
            plan = old;
            return fresh;
        }

        private int kind() {
            return next >= 0 && next <= TOKENS ? tokens.kinds[next] : BAD;
        }

        private boolean accept(int wanted) {
            if (kind() != wanted) {
                return false;
            }
            next++;
            return true;
        }

        /** Only the first one counts; reading goes on behind it, as an error 1 comes ahead of it. */
        private void report(int error) {
            if (fault == 0) {
                fault = error;
                faultToken = next;
            }
        }

        private boolean line() {
            switch (kind()) {
                case CASK: return caskLine();
                case MESS: return messLine();
                case ISSUE: return issueLine();
                case SIFT:
                case THROW: return inspectionLine();
                default: return false;
            }
        }

        private boolean caskLine() {
            next++;
            long name = newName(caskNames, ship.casks, CASKS);
            int biscuits = name < 0 ? -1 : amount(BISCUITS, 0, MOST_BISCUITS);
            int weevils = biscuits < 0 ? -1 : amount(WEEVILS, 0, 9999);
            int damp = weevils < 0 ? -1 : amount(DAMP, 0, 20);
            if (damp < 0) {
                return false;
            }
            if (ship.casks >= 0 && ship.casks < CASKS) {
                caskNames[ship.casks] = name;
                ship.caskAt(ship.casks).begin(biscuits, weevils, damp);
                ship.casks++;
            }
            return true;
        }

        private boolean messLine() {
            next++;
            long name = newName(messNames, ship.messes, MESSES);
            int men = name < 0 ? -1 : amount(MEN, 1, 30);
            int proud = men < 0 ? -1 : amount(PROUD, 1, 9);
            if (proud < 0) {
                return false;
            }
            if (ship.messes >= 0 && ship.messes < MESSES) {
                messNames[ship.messes] = name;
                ship.messAt(ship.messes).begin(men, proud);
                ship.messes++;
            }
            return true;
        }

        private boolean issueLine() {
            if (plan.issues >= ISSUES) {
                report(4);
            }
            next++;
            int mess = oldName(messNames, ship.messes);
            if (mess < 0 || !accept(FROM)) {
                return false;
            }
            int cask = oldName(caskNames, ship.casks);
            if (cask < 0) {
                return false;
            }
            int start = plan.codes;
            if (accept(WHEN) && !test(0)) {
                return false;
            }
            plan.addIssue(mess, cask, start);
            return true;
        }

        private boolean inspectionLine() {
            if (plan.inspections >= INSPECTIONS) {
                report(4);
            }
            boolean thrown = kind() == THROW;
            next++;
            int cask = oldName(caskNames, ship.casks);
            int start = plan.codes;
            if (cask < 0 || !accept(WHEN) || !test(0)) {
                return false;
            }
            plan.addInspection(thrown, cask, start);
            return true;
        }

        /** Returns the key of the name; -1 if there is no name. */
        private long newName(long[] names, int told, int most) {
            if (kind() != NAME) {
                return -1;
            }
            long name = tokens.valueAt(next);
            if (indexOf(names, told, name) >= 0) {
                report(2);
            }
            if (told >= most) {
                report(4);
            }
            next++;
            return name;
        }

        /** Returns the number of the one with the name; -1 if there is no name. */
        private int oldName(long[] names, int told) {
            if (kind() != NAME) {
                return -1;
            }
            int number = indexOf(names, told, tokens.valueAt(next));
            if (number < 0) {
                report(3);
            }
            next++;
            return number < 0 ? 0 : number;
        }

        private static int indexOf(long[] names, int told, long name) {
            for (int i = 0; i < told && i < names.length; i++) {
                if (names[i] == name) {
                    return i;
                }
            }
            return -1;
        }

        /** Returns the number behind the keyword; -1 if not both are there. */
        private int amount(int keyword, int least, int most) {
            if (!accept(keyword) || kind() != NUMBER) {
                return -1;
            }
            int number = (int) tokens.valueAt(next);
            if (number < least || number > most) {
                report(5);
            }
            next++;
            return number;
        }

        private boolean test(int depth) {
            if (!both(depth)) {
                return false;
            }
            for (int i = 0; i < TOKENS && accept(OR); i++) {
                if (!both(depth)) {
                    return false;
                }
                plan.addCode(OR, 0);
            }
            return true;
        }

        private boolean both(int depth) {
            if (!single(depth)) {
                return false;
            }
            for (int i = 0; i < TOKENS && accept(AND); i++) {
                if (!single(depth)) {
                    return false;
                }
                plan.addCode(AND, 0);
            }
            return true;
        }

        private boolean single(int depth) {
            if (kind() == NOT) {
                if (depth >= DEPTH || !accept(NOT) || !single(depth + 1)) {
                    return false;
                }
                plan.addCode(NOT, 0);
                return true;
            }
            if (kind() == '[') {
                return depth < DEPTH && accept('[') && test(depth + 1) && accept(']');
            }
            if (!sum(depth)) {
                return false;
            }
            int comparison = kind();
            if (!isComparison(comparison)) {
                return false;
            }
            next++;
            if (!sum(depth)) {
                return false;
            }
            plan.addCode(comparison, 0);
            return true;
        }

        private static boolean isComparison(int kind) {
            return kind == '<' || kind == '>' || kind == '=' || kind == AT_MOST || kind == AT_LEAST;
        }

        private boolean sum(int depth) {
            if (!product(depth)) {
                return false;
            }
            for (int i = 0; i < TOKENS && (kind() == '+' || kind() == '-'); i++) {
                int sign = kind();
                next++;
                if (!product(depth)) {
                    return false;
                }
                plan.addCode(sign, 0);
            }
            return true;
        }

        private boolean product(int depth) {
            if (!value(depth)) {
                return false;
            }
            for (int i = 0; i < TOKENS && (kind() == '*' || kind() == '/'); i++) {
                int sign = kind();
                next++;
                if (!value(depth)) {
                    return false;
                }
                plan.addCode(sign, 0);
            }
            return true;
        }

        private boolean value(int depth) {
            int kind = kind();
            switch (kind) {
                case NUMBER:
                case DAY:
                case RATION:
                    plan.addCode(kind, kind == NUMBER ? (int) tokens.valueAt(next) : 0);
                    next++;
                    return true;
                case BISCUITS:
                case WEEVILS:
                case DAMP:
                case TAPS_OF:
                    next++;
                    return named(kind, oldName(caskNames, ship.casks));
                case MEN:
                case TEMPER:
                case GOT:
                    next++;
                    return named(kind, oldName(messNames, ship.messes));
                case '-':
                    return depth < DEPTH && accept('-') && value(depth + 1) && plan.addCode(NEGATIVE, 0);
                case '(':
                    return depth < DEPTH && accept('(') && sum(depth + 1) && accept(')');
                case MIN:
                case MAX:
                    next++;
                    return depth < DEPTH && accept('(') && sum(depth + 1) && accept(',')
                            && sum(depth + 1) && accept(')') && plan.addCode(kind, 0);
                default:
                    return false;
            }
        }

        private boolean named(int kind, int number) {
            return number >= 0 && plan.addCode(kind, number);
        }
    }

    /** A line of issue, sift or throw; its test is a stretch of the plan's code, an empty one holds. */
    private static final class Line {
        private boolean thrown = false;
        private int mess = 0;
        private int cask = 0;
        private int start = 0;
        private int end = 0;

        void set(int ofMess, int ofCask, int codeStart, int codeEnd) {
            mess = ofMess;
            cask = ofCask;
            start = codeStart;
            end = codeEnd;
        }
    }

    /** The lines of issue, sift and throw; their tests are code in which what is joined stands ahead of its sign. */
    private static final class Plan {
        private int issues = 0;
        private int inspections = 0;
        private int codes = 0;
        private final Line[] issueLines = new Line[ISSUES];
        private final Line[] inspectionLines = new Line[INSPECTIONS];
        private final int[] kinds = new int[TOKENS];
        private final int[] values = new int[TOKENS];
        private final int[] stack = new int[TOKENS];
        private int top = 0;

        Plan() {
            for (int i = 0; i < ISSUES; i++) {
                issueLines[i] = new Line();
            }
            for (int i = 0; i < INSPECTIONS; i++) {
                inspectionLines[i] = new Line();
            }
        }

        void clear() {
            issues = 0;
            inspections = 0;
            codes = 0;
        }

        void addIssue(int mess, int cask, int start) {
            if (issues < ISSUES) {
                issueAt(issues).set(mess, cask, start, codes);
                issues++;
            }
        }

        void addInspection(boolean thrown, int cask, int start) {
            if (inspections < INSPECTIONS) {
                inspectionAt(inspections).set(0, cask, start, codes);
                inspectionAt(inspections).thrown = thrown;
                inspections++;
            }
        }

        Line issueAt(int number) {
            return issueLines[number >= 0 && number < ISSUES ? number : 0];
        }

        Line inspectionAt(int number) {
            return inspectionLines[number >= 0 && number < INSPECTIONS ? number : 0];
        }

        /** A token brings one code at most, so that there is always room. */
        boolean addCode(int kind, int value) {
            if (codes < 0 || codes >= TOKENS) {
                return false;
            }
            kinds[codes] = kind;
            values[codes] = value;
            codes++;
            return true;
        }

        boolean holds(Line line, Ship ship) {
            if (line.start >= line.end) {
                return true;
            }
            top = 0;
            for (int i = line.start; i < line.end; i++) {
                if (i >= 0 && i < TOKENS) {
                    reckon(kinds[i], values[i], ship);
                }
            }
            return pop() != 0;
        }

        private void reckon(int kind, int value, Ship ship) {
            switch (kind) {
                case NUMBER: push(value); break;
                case DAY: push(ship.day); break;
                case RATION: push(ship.ration); break;
                case BISCUITS: push(ship.caskAt(value).biscuits); break;
                case WEEVILS: push(ship.caskAt(value).weevils); break;
                case DAMP: push(ship.caskAt(value).damp); break;
                case TAPS_OF: push(ship.caskAt(value).tapped(TAPS)); break;
                case MEN: push(ship.messAt(value).men); break;
                case TEMPER: push(ship.messAt(value).temper); break;
                case GOT: push(ship.messAt(value).got); break;
                case NEGATIVE: push(-pop()); break;
                case NOT: push(1 - pop()); break;
                default:
                    int right = pop();
                    int left = pop();
                    push(joined(kind, left, right));
            }
        }

        private static int joined(int kind, int left, int right) {
            switch (kind) {
                case '+': return left + right;
                case '-': return left - right;
                case '*': return left * right;
                case '/': return right == 0 ? 0 : left / right;
                case MIN: return left < right ? left : right;
                case MAX: return left > right ? left : right;
                case '<': return left < right ? 1 : 0;
                case '>': return left > right ? 1 : 0;
                case '=': return left == right ? 1 : 0;
                case AT_MOST: return left <= right ? 1 : 0;
                case AT_LEAST: return left >= right ? 1 : 0;
                case AND: return left & right;
                default: return left | right;
            }
        }

        private void push(int number) {
            if (top >= 0 && top < TOKENS) {
                stack[top] = number;
                top++;
            }
        }

        private int pop() {
            if (top < 1 || top > TOKENS) {
                return 0;
            }
            top--;
            return stack[top];
        }
    }

    private static final class Cask {
        private int biscuits = 0;
        private int weevils = 0;
        private int damp = 0;
        private boolean aboard = true;
        private int sifted = 0;

        void begin(int withBiscuits, int withWeevils, int withDamp) {
            biscuits = withBiscuits;
            weevils = withWeevils;
            damp = withDamp;
            aboard = true;
            sifted = 0;
        }

        void copy(Cask other) {
            biscuits = other.biscuits;
            weevils = other.weevils;
            damp = other.damp;
            aboard = other.aboard;
            sifted = other.sifted;
        }

        int told(int what) {
            switch (what) {
                case CASK_BISCUITS: return biscuits;
                case CASK_WEEVILS: return weevils;
                case CASK_DAMP: return damp;
                case CASK_ABOARD: return aboard ? 1 : 0;
                case CASK_SIFTED: return sifted;
                default: return 0;
            }
        }

        int tapped(int number) {
            return biscuits == 0 ? 0 : number * weevils / biscuits;
        }

        int siftOnce() {
            int out = weevils - weevils / 2;
            weevils -= out;
            biscuits -= biscuits / 10;
            sifted++;
            return out;
        }

        void throwOverboard() {
            aboard = false;
            biscuits = 0;
            weevils = 0;
        }

        int putIn(int more) {
            biscuits = Math.min(biscuits + more, MOST_BISCUITS);
            aboard = true;
            return biscuits;
        }

        /** Weevils eat, then breed. */
        void endDay() {
            biscuits = Math.max(biscuits - weevils / 30, 0);
            weevils += weevils * damp / 20 + (damp >= 6 ? 1 : 0);
            weevils = Math.min(weevils, 10 * biscuits);
        }
    }

    private static final class Mess {
        private int men = 0;
        private int proud = 0;
        private int temper = 0;
        private int asked = 0;
        private int got = 0;
        private int weevils = 0;
        private int complaints = 0;
        private int eaten = 0;
        private int weevilsEaten = 0;

        void begin(int withMen, int withProud) {
            men = withMen;
            proud = withProud;
            temper = 0;
            asked = 0;
            got = 0;
            weevils = 0;
            complaints = 0;
            eaten = 0;
            weevilsEaten = 0;
        }

        void copy(Mess other) {
            men = other.men;
            proud = other.proud;
            temper = other.temper;
            asked = other.asked;
            got = other.got;
            weevils = other.weevils;
            complaints = other.complaints;
            eaten = other.eaten;
            weevilsEaten = other.weevilsEaten;
        }

        int told(int what) {
            switch (what) {
                case MESS_MEN: return men;
                case MESS_PROUD: return proud;
                case MESS_TEMPER: return temper;
                case MESS_GOT: return got;
                case MESS_WEEVILS: return weevils;
                case MESS_COMPLAINTS: return complaints;
                case MESS_EATEN: return eaten;
                case MESS_WEEVILS_EATEN: return weevilsEaten;
                default: return 0;
            }
        }

        void ask(int ration) {
            asked = men * ration;
            got = 0;
            weevils = 0;
        }

        void eatFrom(Cask cask) {
            int taken = Math.min(asked - got, cask.biscuits);
            int with = cask.tapped(taken);
            cask.biscuits -= taken;
            cask.weevils -= with;
            got += taken;
            weevils += with;
            eaten += taken;
            weevilsEaten += with;
        }

        void complain() {
            boolean hungry = got < asked;
            boolean disgusted = weevils > men * (10 - proud);
            complaints += (hungry ? 1 : 0) + (disgusted ? 1 : 0);
            int worse = hungry || disgusted ? (hungry ? 2 : 0) + (disgusted ? 1 : 0) : -1;
            temper = Math.max(0, Math.min(temper + worse, MOST_TEMPER));
        }
    }

    /** The stores and messes as they are on a day. */
    private static final class Ship {
        private int day = 0;
        private int ration = 1;
        private int casks = 0;
        private int messes = 0;
        private final Cask[] caskRow = new Cask[CASKS];
        private final Mess[] messRow = new Mess[MESSES];

        Ship() {
            for (int i = 0; i < CASKS; i++) {
                caskRow[i] = new Cask();
            }
            for (int i = 0; i < MESSES; i++) {
                messRow[i] = new Mess();
            }
        }

        void clear() {
            casks = 0;
            messes = 0;
        }

        void copy(Ship other) {
            day = other.day;
            ration = other.ration;
            copyStores(other);
        }

        /** Copies all but the day and the ration. */
        void copyStores(Ship other) {
            casks = other.casks;
            messes = other.messes;
            for (int i = 0; i < casks; i++) {
                caskAt(i).copy(other.caskAt(i));
            }
            for (int i = 0; i < messes; i++) {
                messAt(i).copy(other.messAt(i));
            }
        }

        boolean hasCask(int number) {
            return number >= 0 && number < casks;
        }

        boolean hasMess(int number) {
            return number >= 0 && number < messes;
        }

        Cask caskAt(int number) {
            return caskRow[number >= 0 && number < CASKS ? number : 0];
        }

        Mess messAt(int number) {
            return messRow[number >= 0 && number < MESSES ? number : 0];
        }

        int ofCasks(int what) {
            int all = 0;
            for (int i = 0; i < casks; i++) {
                all += caskAt(i).told(what);
            }
            return all;
        }

        int ofMesses(int what) {
            int all = 0;
            for (int i = 0; i < messes; i++) {
                all += messAt(i).told(what);
            }
            return all;
        }

        void passDay(Plan plan) {
            inspect(plan);
            for (int i = 0; i < messes; i++) {
                serve(i, plan);
            }
            for (int i = 0; i < messes; i++) {
                messAt(i).complain();
            }
            for (int i = 0; i < casks; i++) {
                if (caskAt(i).aboard) {
                    caskAt(i).endDay();
                }
            }
            evenDamp();
            day++;
        }

        private void inspect(Plan plan) {
            for (int i = 0; i < plan.inspections; i++) {
                Line line = plan.inspectionAt(i);
                Cask cask = caskAt(line.cask);
                if (cask.aboard && plan.holds(line, this)) {
                    if (line.thrown) {
                        cask.throwOverboard();
                    } else {
                        cask.siftOnce();
                    }
                }
            }
        }

        private void serve(int number, Plan plan) {
            Mess mess = messAt(number);
            mess.ask(ration);
            for (int i = 0; i < plan.issues && mess.got < mess.asked; i++) {
                Line line = plan.issueAt(i);
                Cask cask = caskAt(line.cask);
                if (line.mess == number && cask.aboard && plan.holds(line, this)) {
                    mess.eatFrom(cask);
                }
            }
        }

        private void evenDamp() {
            for (int i = 0; i + 1 < casks; i++) {
                int over = (caskAt(i).damp - caskAt(i + 1).damp) / 4;
                caskAt(i).damp -= over;
                caskAt(i + 1).damp += over;
            }
        }
    }
}
