import java.util.ArrayDeque;
import java.util.ArrayList;
import java.util.Arrays;
import java.util.HashSet;
import java.util.List;
import java.util.Map;
import java.util.Set;
import java.util.TreeMap;
import java.util.regex.Matcher;
import java.util.regex.Pattern;

/**
 * The document once more, in another way: the grammar is a table that is gone through with all stacks at once,
 * and a test is split at its weakest sign each time that it is reckoned.
 */
final class Model {
    record Token(String text, String sort, int at) {
    }

    static final class Issue {
        String verb;
        String mess;
        String cask;
        List<Token> test;
    }

    static final class Store {
        long biscuits;
        long weevils;
        long damp;
        boolean aboard = true;
        long sifted;
    }

    static final class Eaters {
        long men;
        long proud;
        long temper;
        long got;
        long asked;
        long weevils;
        long complaints;
        long all;
        long allWeevils;
    }

    private static final Set<String> KEYWORDS = Set.of("cask", "biscuits", "weevils", "damp", "mess", "men", "proud",
            "issue", "from", "when", "sift", "throw", "day", "ration", "temper", "got", "taps", "not", "and", "or", "min", "max");
    private static final Pattern TOKEN = Pattern.compile("[a-z][a-z0-9]*|[0-9]+|<=|>=|[()\\[\\];,+\\-*/<>=]");
    private static final Map<String, String[]> GRAMMAR = grammar();

    String tape = "";
    int errorAt = -1;
    long day = 0;
    long ration = 1;
    List<Issue> issues = new ArrayList<>();
    List<Issue> inspections = new ArrayList<>();
    List<String> caskNames = new ArrayList<>();
    List<String> messNames = new ArrayList<>();
    List<Store> casks = new ArrayList<>();
    List<Eaters> messes = new ArrayList<>();

    // ---- the language

    private static Map<String, String[]> grammar() {
        Map<String, String[]> g = new TreeMap<>();
        g.put("LIST", new String[] {"", "LINE ; LIST"});
        g.put("LINE", new String[] {"cask NAME biscuits NUMBER weevils NUMBER damp NUMBER", "mess NAME men NUMBER proud NUMBER",
            "issue NAME from NAME WHEN", "sift NAME when TEST0", "throw NAME when TEST0"});
        g.put("WHEN", new String[] {"", "when TEST0"});
        g.put("SIGN", new String[] {"<", ">", "=", "<=", ">="});
        for (int d = 0; d <= 8; d++) {
            int e = d + 1;
            // The rest of a chain has a rule of its own, so that the stacks stay few.
            g.put("TEST" + d, new String[] {"BOTH" + d + " ORS" + d});
            g.put("ORS" + d, new String[] {"", "or BOTH" + d + " ORS" + d});
            g.put("BOTH" + d, new String[] {"SINGLE" + d + " ANDS" + d});
            g.put("ANDS" + d, new String[] {"", "and SINGLE" + d + " ANDS" + d});
            g.put("SUM" + d, new String[] {"PRODUCT" + d + " ADDS" + d});
            g.put("ADDS" + d, new String[] {"", "+ PRODUCT" + d + " ADDS" + d, "- PRODUCT" + d + " ADDS" + d});
            g.put("PRODUCT" + d, new String[] {"VALUE" + d + " TIMES" + d});
            g.put("TIMES" + d, new String[] {"", "* VALUE" + d + " TIMES" + d, "/ VALUE" + d + " TIMES" + d});
            List<String> single = new ArrayList<>(List.of("SUM" + d + " SIGN SUM" + d));
            List<String> value = new ArrayList<>(List.of("NUMBER", "day", "ration", "biscuits NAME", "weevils NAME", "damp NAME",
                    "taps NAME", "men NAME", "temper NAME", "got NAME"));
            if (d < 8) {
                single.add("not SINGLE" + e);
                single.add("[ TEST" + e + " ]");
                value.add("- VALUE" + e);
                value.add("( SUM" + e + " )");
                value.add("min ( SUM" + e + " , SUM" + e + " )");
                value.add("max ( SUM" + e + " , SUM" + e + " )");
            } else {
                value.add("min never");
                value.add("max never");
            }
            g.put("SINGLE" + d, single.toArray(new String[0]));
            g.put("VALUE" + d, value.toArray(new String[0]));
        }
        return g;
    }

    private static List<Token> cut(String tape) {
        List<Token> tokens = new ArrayList<>();
        Matcher matcher = TOKEN.matcher(tape);
        int at = 0;
        while (true) {
            while (at < tape.length() && (tape.charAt(at) == ' ' || tape.charAt(at) == '\n')) {
                at++;
            }
            if (at == tape.length()) {
                tokens.add(new Token("", "END", at));
                return tokens;
            }
            matcher.region(at, tape.length());
            boolean found = matcher.lookingAt();
            String text = found ? matcher.group() : "";
            boolean letter = found && Character.isLetter(text.charAt(0));
            boolean digit = found && Character.isDigit(text.charAt(0));
            if (!found || tokens.size() == 400 || letter && text.length() > 10 || digit && text.length() > 6) {
                tokens.add(new Token("", "BAD", at));
                return tokens;
            }
            tokens.add(new Token(text, letter && !KEYWORDS.contains(text) ? "NAME" : digit ? "NUMBER" : text, at));
            at += text.length();
        }
    }

    /** All stacks (topmost first) that can stand behind one more token of this sort. */
    private static Set<List<String>> step(Set<List<String>> stacks, String sort) {
        Set<List<String>> then = new HashSet<>();
        Set<List<String>> seen = new HashSet<>(stacks);
        ArrayDeque<List<String>> open = new ArrayDeque<>(stacks);
        while (!open.isEmpty()) {
            List<String> stack = open.remove();
            if (stack.isEmpty()) {
                if (sort.equals("END")) {
                    then.add(stack);
                }
                continue;
            }
            List<String> rest = stack.subList(1, stack.size());
            String[] rules = GRAMMAR.get(stack.get(0));
            if (rules == null) {
                if (stack.get(0).equals(sort)) {
                    then.add(new ArrayList<>(rest));
                }
                continue;
            }
            for (String rule : rules) {
                List<String> longer = new ArrayList<>();
                if (!rule.isEmpty()) {
                    longer.addAll(Arrays.asList(rule.split(" ")));
                }
                longer.addAll(rest);
                if (seen.add(longer)) {
                    open.add(longer);
                }
            }
        }
        return then;
    }

    int teach() {
        List<Token> tokens = cut(tape);
        tape = "";
        Set<List<String>> stacks = Set.of(List.of("LIST"));
        for (Token token : tokens) {
            stacks = step(stacks, token.sort);
            if (stacks.isEmpty()) {
                errorAt = token.at;
                return 1;
            }
        }
        Model fresh = new Model();
        int start = 0;
        for (int i = 0; i < tokens.size(); i++) {
            if (tokens.get(i).text.equals(";")) {
                int error = fresh.line(tokens.subList(start, i));
                if (error != 0) {
                    errorAt = fresh.errorAt;
                    return error;
                }
                start = i + 1;
            }
        }
        errorAt = -1;
        issues = fresh.issues;
        inspections = fresh.inspections;
        caskNames = fresh.caskNames;
        messNames = fresh.messNames;
        casks = fresh.casks;
        messes = fresh.messes;
        return 0;
    }

    private int line(List<Token> line) {
        String verb = line.get(0).text;
        for (int i = 0; i < line.size(); i++) {
            int error = errorOf(line, i, verb);
            if (error != 0) {
                errorAt = line.get(i).at;
                return error;
            }
        }
        if (verb.equals("cask")) {
            Store cask = new Store();
            cask.biscuits = Long.parseLong(line.get(3).text);
            cask.weevils = Long.parseLong(line.get(5).text);
            cask.damp = Long.parseLong(line.get(7).text);
            caskNames.add(line.get(1).text);
            casks.add(cask);
        } else if (verb.equals("mess")) {
            Eaters mess = new Eaters();
            mess.men = Long.parseLong(line.get(3).text);
            mess.proud = Long.parseLong(line.get(5).text);
            messNames.add(line.get(1).text);
            messes.add(mess);
        } else {
            boolean issue = verb.equals("issue");
            Issue made = new Issue();
            made.verb = verb;
            made.mess = issue ? line.get(1).text : "";
            made.cask = line.get(issue ? 3 : 1).text;
            int head = issue ? 5 : 3;
            made.test = line.size() <= head ? null : line.subList(head, line.size());
            (issue ? issues : inspections).add(made);
        }
        return 0;
    }

    private int errorOf(List<Token> line, int i, String verb) {
        Token token = line.get(i);
        String behind = i == 0 ? "" : line.get(i - 1).text;
        if (token.sort.equals("NAME")) {
            if (behind.equals("cask") || behind.equals("mess")) {
                boolean cask = behind.equals("cask");
                List<String> names = cask ? caskNames : messNames;
                return names.contains(token.text) ? 2 : names.size() == (cask ? 8 : 6) ? 4 : 0;
            }
            boolean mess = Set.of("issue", "men", "temper", "got").contains(behind);
            return (mess ? messNames : caskNames).contains(token.text) ? 0 : 3;
        }
        if (i == 0 && verb.equals("issue") && issues.size() == 24) {
            return 4;
        }
        if (i == 0 && (verb.equals("sift") || verb.equals("throw")) && inspections.size() == 12) {
            return 4;
        }
        if (token.sort.equals("NUMBER") && (verb.equals("cask") || verb.equals("mess"))) {
            long n = Long.parseLong(token.text);
            long least = verb.equals("mess") ? 1 : 0;
            long most = Map.of("biscuits", 999L, "weevils", 9999L, "damp", 20L, "men", 30L, "proud", 9L).get(behind);
            return n < least || n > most ? 5 : 0;
        }
        return 0;
    }

    // ---- tests

    private static int nesting(Token token) {
        return token.text.equals("(") || token.text.equals("[") ? 1 : token.text.equals(")") || token.text.equals("]") ? -1 : 0;
    }

    /** Place of the last of these signs outside of brackets, at which a value or test ends; -1 if none. */
    private static int lastOf(List<Token> tokens, String... signs) {
        int depth = 0;
        for (int i = tokens.size() - 1; i > 0; i--) {
            depth += nesting(tokens.get(i));
            String before = tokens.get(i - 1).sort;
            boolean behindValue = Set.of("NAME", "NUMBER", "day", "ration", ")", "]").contains(before);
            if (depth == 0 && behindValue && Arrays.asList(signs).contains(tokens.get(i).text)) {
                return i;
            }
        }
        return -1;
    }

    private boolean holds(List<Token> test) {
        if (test == null) {
            return true;
        }
        int at = lastOf(test, "or");
        if (at >= 0) {
            return holds(test.subList(0, at)) | holds(test.subList(at + 1, test.size()));
        }
        at = lastOf(test, "and");
        if (at >= 0) {
            return holds(test.subList(0, at)) & holds(test.subList(at + 1, test.size()));
        }
        if (test.get(0).text.equals("not")) {
            return !holds(test.subList(1, test.size()));
        }
        if (test.get(0).text.equals("[")) {
            return holds(test.subList(1, test.size() - 1));
        }
        at = lastOf(test, "<", ">", "=", "<=", ">=");
        int left = sum(test.subList(0, at));
        int right = sum(test.subList(at + 1, test.size()));
        String sign = test.get(at).text;
        return sign.contains("=") && left == right || sign.contains("<") && left < right || sign.contains(">") && left > right;
    }

    private int sum(List<Token> tokens) {
        int at = lastOf(tokens, "+", "-");
        if (at < 0) {
            at = lastOf(tokens, "*", "/");
        }
        if (at >= 0) {
            long left = sum(tokens.subList(0, at));
            long right = sum(tokens.subList(at + 1, tokens.size()));
            switch (tokens.get(at).text) {
                case "+": return (int) (left + right);
                case "-": return (int) (left - right);
                case "*": return (int) (left * right);
                default: return right == 0 ? 0 : (int) (left / right);
            }
        }
        Token first = tokens.get(0);
        List<Token> rest = tokens.subList(1, tokens.size());
        switch (first.text) {
            case "day": return (int) day;
            case "ration": return (int) ration;
            case "-": return (int) -(long) sum(rest);
            case "(": return sum(rest.subList(0, rest.size() - 1));
            case "min":
            case "max": return ofTwo(first.text, rest.subList(1, rest.size() - 1));
            default:
        }
        if (first.sort.equals("NUMBER")) {
            return Integer.parseInt(first.text);
        }
        String name = rest.get(0).text;
        switch (first.text) {
            case "biscuits": return (int) casks.get(caskNames.indexOf(name)).biscuits;
            case "weevils": return (int) casks.get(caskNames.indexOf(name)).weevils;
            case "damp": return (int) casks.get(caskNames.indexOf(name)).damp;
            case "taps": return tap(caskNames.indexOf(name), 5);
            case "men": return (int) messes.get(messNames.indexOf(name)).men;
            case "temper": return (int) messes.get(messNames.indexOf(name)).temper;
            default: return (int) messes.get(messNames.indexOf(name)).got;
        }
    }

    private int ofTwo(String which, List<Token> inside) {
        int at = lastOf(inside, ",");
        int left = sum(inside.subList(0, at));
        int right = sum(inside.subList(at + 1, inside.size()));
        return which.equals("min") ? Math.min(left, right) : Math.max(left, right);
    }

    // ---- the stores

    int tap(int cask, int n) {
        Store store = casks.get(cask);
        return store.biscuits == 0 ? 0 : (int) (n * store.weevils / store.biscuits);
    }

    int sift(int cask) {
        Store store = casks.get(cask);
        long out = (store.weevils + 1) / 2;
        store.weevils -= out;
        store.biscuits -= store.biscuits / 10;
        store.sifted++;
        return (int) out;
    }

    int fill(int cask, int biscuits) {
        Store store = casks.get(cask);
        store.biscuits = Math.min(999, store.biscuits + biscuits);
        store.aboard = true;
        return (int) store.biscuits;
    }

    int pass(int days) {
        long before = complaints();
        for (int i = 0; i < days; i++) {
            oneDay();
        }
        return (int) (complaints() - before);
    }

    private void oneDay() {
        for (Issue line : inspections) {
            int number = caskNames.indexOf(line.cask);
            Store cask = casks.get(number);
            if (!cask.aboard || !holds(line.test)) {
                continue;
            }
            if (line.verb.equals("sift")) {
                sift(number);
            } else {
                cask.aboard = false;
                cask.biscuits = 0;
                cask.weevils = 0;
            }
        }
        for (int m = 0; m < messes.size(); m++) {
            Eaters mess = messes.get(m);
            mess.got = 0;
            mess.weevils = 0;
            mess.asked = mess.men * ration;
            for (Issue line : issues) {
                if (!line.mess.equals(messNames.get(m)) || mess.got == mess.asked) {
                    continue;
                }
                Store cask = casks.get(caskNames.indexOf(line.cask));
                if (cask.aboard && cask.biscuits > 0 && holds(line.test)) {
                    long n = Math.min(cask.biscuits, mess.asked - mess.got);
                    long w = cask.weevils * n / cask.biscuits;
                    cask.biscuits -= n;
                    cask.weevils -= w;
                    mess.got += n;
                    mess.all += n;
                    mess.weevils += w;
                    mess.allWeevils += w;
                }
            }
        }
        for (Eaters mess : messes) {
            long before = mess.complaints;
            if (mess.got < mess.asked) {
                mess.complaints++;
                mess.temper += 2;
            }
            if (mess.weevils > mess.men * (10 - mess.proud)) {
                mess.complaints++;
                mess.temper++;
            }
            if (mess.complaints == before) {
                mess.temper--;
            }
            mess.temper = Math.min(99, Math.max(0, mess.temper));
        }
        for (Store cask : casks) {
            if (cask.aboard) {
                cask.biscuits = Math.max(0, cask.biscuits - cask.weevils / 30);
                long bred = cask.weevils * cask.damp / 20;
                cask.weevils = Math.min(10 * cask.biscuits, cask.weevils + bred + (cask.damp > 5 ? 1 : 0));
            }
        }
        for (int i = 1; i < casks.size(); i++) {
            Store a = casks.get(i - 1);
            Store b = casks.get(i);
            long over = Math.abs(a.damp - b.damp) / 4;
            boolean first = a.damp > b.damp;
            a.damp += first ? -over : over;
            b.damp += first ? over : -over;
        }
        day++;
    }

    private long complaints() {
        return messes.stream().mapToLong(m -> m.complaints).sum();
    }

    private long eaten() {
        return messes.stream().mapToLong(m -> m.all).sum();
    }

    private Model copy() {
        Model m = new Model();
        m.day = day;
        m.ration = ration;
        m.issues = issues;
        m.inspections = inspections;
        m.caskNames = caskNames;
        m.messNames = messNames;
        for (Store cask : casks) {
            Store c = new Store();
            c.biscuits = cask.biscuits;
            c.weevils = cask.weevils;
            c.damp = cask.damp;
            c.aboard = cask.aboard;
            c.sifted = cask.sifted;
            m.casks.add(c);
        }
        for (Eaters mess : messes) {
            Eaters c = new Eaters();
            c.men = mess.men;
            c.proud = mess.proud;
            c.temper = mess.temper;
            c.got = mess.got;
            c.weevils = mess.weevils;
            c.complaints = mess.complaints;
            c.all = mess.all;
            c.allWeevils = mess.allWeevils;
            m.messes.add(c);
        }
        return m;
    }

    // ---- what would be

    int lasts(int cask) {
        Model m = copy();
        for (int days = 0; days <= 200; days++) {
            if (m.casks.get(cask).biscuits == 0) {
                return days;
            }
            m.oneDay();
        }
        return -1;
    }

    int mutiny(int mess, int temper) {
        Model m = copy();
        for (int days = 0; days <= 200; days++) {
            if (m.messes.get(mess).temper >= temper) {
                return days;
            }
            m.oneDay();
        }
        return -1;
    }

    int foresee(int days, int what) {
        Model m = copy();
        int complaints = m.pass(days);
        switch (what) {
            case 0: return complaints;
            case 1: return (int) m.casks.stream().mapToLong(c -> c.biscuits).sum();
            case 2: return (int) m.casks.stream().mapToLong(c -> c.weevils).sum();
            case 3: return (int) (m.eaten() - eaten());
            default: return (int) m.messes.stream().mapToLong(c -> c.temper).sum();
        }
    }

    int advise(int days) {
        int best = 9;
        int fewest = Integer.MAX_VALUE;
        for (int r = 9; r >= 1; r--) {
            Model m = copy();
            m.ration = r;
            int complaints = m.pass(days);
            if (complaints < fewest) {
                fewest = complaints;
                best = r;
            }
        }
        return best;
    }

    int choose(int days) {
        int best = -1;
        int fewest = copy().pass(days);
        int without = fewest;
        for (int c = casks.size() - 1; c >= 0; c--) {
            if (casks.get(c).aboard) {
                Model m = copy();
                m.sift(c);
                int complaints = m.pass(days);
                if (complaints < without && complaints <= fewest) {
                    fewest = complaints;
                    best = c;
                }
            }
        }
        return best;
    }

    double mean() {
        long weevils = messes.stream().mapToLong(m -> m.allWeevils).sum();
        return eaten() == 0 ? 0 : (double) weevils / eaten();
    }

    long digest() {
        List<Long> all = new ArrayList<>(List.of(day, ration, (long) casks.size(), casks.stream().filter(c -> c.aboard).count(),
                (long) messes.size(), (long) issues.size(), (long) inspections.size()));
        all.add(casks.stream().mapToLong(c -> c.biscuits).sum());
        all.add(casks.stream().mapToLong(c -> c.weevils).sum());
        all.add(casks.stream().mapToLong(c -> c.damp).sum());
        all.addAll(List.of(complaints(), eaten(), messes.stream().mapToLong(m -> m.allWeevils).sum(), (long) tape.length()));
        for (int i = 0; i < casks.size(); i++) {
            Store c = casks.get(i);
            all.addAll(List.of(c.biscuits, c.weevils, c.damp, c.aboard ? 1L : 0L, c.sifted, (long) tap(i, 5)));
        }
        for (Eaters m : messes) {
            all.addAll(List.of(m.men, m.proud, m.temper, m.got, m.weevils, m.complaints, m.all));
        }
        long d = 787;
        for (long x : all) {
            d = d * 31 + x;
        }
        return d;
    }
}
