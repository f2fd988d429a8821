import java.nio.charset.StandardCharsets;

/** What the tests share: answers that are due, exceptions that are due, and texts on the tape. */
final class Check {
    private static int wrong = 0;
    private static int made = 0;

    interface Call {
        void make();
    }

    private Check() {
    }

    static void due(String what, long got, long want) {
        made++;
        if (got != want) {
            complain(what + " answered " + got + ", due is " + want);
        }
    }

    static void dueDouble(String what, double got, double want) {
        made++;
        if (got != want) {
            complain(what + " answered " + got + ", due is " + want);
        }
    }

    /** The call has to throw just this, and to leave the object as it was. */
    static void dueThrow(String what, BiscuitMess x, Class<? extends RuntimeException> want, Call call) {
        made++;
        long before = x.digest();
        Class<?> got = null;
        try {
            call.make();
        } catch (RuntimeException e) {
            got = e.getClass();
        }
        if (got != want) {
            complain(what + " threw " + got + ", due is " + want);
        }
        if (x.digest() != before) {
            complain(what + " threw and changed something");
        }
    }

    static void dueIndex(String what, BiscuitMess x, Call call) {
        dueThrow(what, x, IndexOutOfBoundsException.class, call);
    }

    static void dueArgument(String what, BiscuitMess x, Call call) {
        dueThrow(what, x, IllegalArgumentException.class, call);
    }

    static void dueState(String what, BiscuitMess x, Call call) {
        dueThrow(what, x, IllegalStateException.class, call);
    }

    static void write(BiscuitMess x, String text) {
        write(x, text.getBytes(StandardCharsets.ISO_8859_1));
    }

    /** Puts the bytes onto the empty tape; needs some room behind them, or a length divisible by 20. */
    static void write(BiscuitMess x, byte[] bytes) {
        for (int at = 0; at < bytes.length; at += 20) {
            x.feed(four(bytes, at), four(bytes, at + 4), four(bytes, at + 8), four(bytes, at + 12), four(bytes, at + 16));
        }
        x.trim(bytes.length);
    }

    private static int four(byte[] bytes, int from) {
        int number = 0;
        for (int i = from; i < from + 4; i++) {
            number = number << 8 | (i < bytes.length ? bytes[i] & 255 : 0);
        }
        return number;
    }

    static BiscuitMess ship(String text) {
        BiscuitMess x = new BiscuitMess();
        write(x, text);
        due("teach of " + text, x.teach(), 0);
        return x;
    }

    /** On a new object the text has to have this error there; 0 at -1 if it has none. */
    static void dueError(String text, int error, int at) {
        BiscuitMess x = new BiscuitMess();
        write(x, text);
        due("teach of " + text, x.teach(), error);
        due("errorAt of " + text, x.errorAt(), at);
    }

    /** The error has to be where the sign ^ stands, which is not itself a part of the text. */
    static void dueErrorAtMark(String text, int error) {
        int at = text.indexOf('^');
        dueError(text.substring(0, at) + text.substring(at + 1), error, at);
    }

    static String repeat(String text, int times) {
        return text.repeat(times);
    }

    static void end(String test) {
        System.out.println(test + ": " + made + " checks, " + wrong + " wrong");
        if (wrong != 0) {
            System.exit(1);
        }
    }

    private static void complain(String text) {
        wrong++;
        if (wrong <= 50) {
            System.out.println(text);
        }
    }
}
