import java.nio.charset.StandardCharsets;
import java.util.Arrays;
import java.util.function.Consumer;
import java.util.function.Supplier;

/** What the tests share: answers that are due, exceptions that are due, and texts on the tape. */
final class Check {
    private static int wrong = 0;
    private static int made = 0;
    private static String sentence = "";

    interface Call {
        void make();
    }

    interface Question {
        int ask(BiscuitMess x, int number);
    }

    private Check() {
    }

    static void due(String what, long got, long want) {
        made++;
        if (got != want) {
            complain(what + " answered " + got + ", due is " + want);
        }
    }

    static void dueDouble(String what, double got, double want) {
        made++;
        if (got != want) {
            complain(what + " answered " + got + ", due is " + want);
        }
    }

    /** The call has to throw just this, and to leave the object as it was. */
    static void dueThrow(String what, BiscuitMess x, Class<? extends RuntimeException> want, Call call) {
        made++;
        long before = x.digest();
        Class<?> got = null;
        try {
            call.make();
        } catch (RuntimeException e) {
            got = e.getClass();
        }
        if (got != want) {
            complain(what + " threw " + got + ", due is " + want);
        }
        if (x.digest() != before) {
            complain(what + " threw and changed something");
        }
    }

    /** Names the sentence of the document that the checks from here on are about. */
    static void sentence(String text) {
        sentence = text;
    }

    /** The call has to throw just this, and the object has to answer as one that has not got the call, now and later. */
    static void dueRefused(String what, Supplier<BiscuitMess> made, Class<? extends RuntimeException> want,
            Consumer<BiscuitMess> call) {
        BiscuitMess x = made.get();
        dueThrow(what, x, want, () -> call.accept(x));
        dueSame(what, x, made.get());
    }

    /** The call has to leave the object as it was. */
    static void dueUnchanged(String what, Supplier<BiscuitMess> made, Consumer<BiscuitMess> call) {
        BiscuitMess x = made.get();
        call.accept(x);
        dueSame(what, x, made.get());
    }

    /** Uses the two objects up. */
    static void dueSame(String what, BiscuitMess x, BiscuitMess twin) {
        due(what + " changed errorAt", x.errorAt(), twin.errorAt());
        dueSameShip(what, x, twin);
    }

    /** The same, with errors at different places. */
    static void dueSameShip(String what, BiscuitMess x, BiscuitMess twin) {
        made++;
        long[] got = Ships.told(x);
        long[] want = Ships.told(twin);
        if (!Arrays.equals(got, want)) {
            complain(what + " changed something: " + Arrays.toString(got) + ", due is " + Arrays.toString(want));
        }
    }

    /** From low to high the numbers are answered, at both ends; those outside are refused, from the first one on. */
    static void dueRange(String what, Supplier<BiscuitMess> ship, int low, int high, Class<? extends RuntimeException> want,
            Question question) {
        for (int number : new int[] {low, high}) {
            made++;
            try {
                question.ask(ship.get(), number);
            } catch (RuntimeException e) {
                complain(what + " of " + number + " threw " + e);
            }
        }
        int[] outside = {low - 1, high + 1, low - 2, high + 2, low - 256, low + 256, low - 65536, low + 65536,
            -high - 1, Integer.MIN_VALUE, Integer.MIN_VALUE + 1, Integer.MAX_VALUE - 1, Integer.MAX_VALUE};
        for (int number : outside) {
            if (number < low || number > high) {
                dueRefused(what + " of " + number, ship, want, x -> question.ask(x, number));
            }
        }
    }

    static void dueCask(BiscuitMess x, int cask, long... due) {
        for (int what = 0; what < due.length; what++) {
            due("cask(" + cask + ", " + what + ")", x.cask(cask, what), due[what]);
        }
    }

    static void dueMess(BiscuitMess x, int mess, long... due) {
        for (int what = 0; what < due.length; what++) {
            due("mess(" + mess + ", " + what + ")", x.mess(mess, what), due[what]);
        }
    }

    static void dueCounts(BiscuitMess x, long... due) {
        for (int what = 0; what < due.length; what++) {
            due("count(" + what + ")", x.count(what), due[what]);
        }
    }

    static void dueIndex(String what, BiscuitMess x, Call call) {
        dueThrow(what, x, IndexOutOfBoundsException.class, call);
    }

    static void dueArgument(String what, BiscuitMess x, Call call) {
        dueThrow(what, x, IllegalArgumentException.class, call);
    }

    static void dueState(String what, BiscuitMess x, Call call) {
        dueThrow(what, x, IllegalStateException.class, call);
    }

    static void write(BiscuitMess x, String text) {
        write(x, text.getBytes(StandardCharsets.ISO_8859_1));
    }

    /** Puts the bytes onto the empty tape; needs some room behind them, or a length divisible by 20. */
    static void write(BiscuitMess x, byte[] bytes) {
        for (int at = 0; at < bytes.length; at += 20) {
            x.feed(four(bytes, at), four(bytes, at + 4), four(bytes, at + 8), four(bytes, at + 12), four(bytes, at + 16));
        }
        x.trim(bytes.length);
    }

    private static int four(byte[] bytes, int from) {
        int number = 0;
        for (int i = from; i < from + 4; i++) {
            number = number << 8 | (i < bytes.length ? bytes[i] & 255 : 0);
        }
        return number;
    }

    static BiscuitMess ship(String text) {
        BiscuitMess x = new BiscuitMess();
        write(x, text);
        due("teach of " + text, x.teach(), 0);
        return x;
    }

    /** On a new object the text has to have this error there; 0 at -1 if it has none. */
    static void dueError(String text, int error, int at) {
        BiscuitMess x = new BiscuitMess();
        write(x, text);
        due("teach of " + text, x.teach(), error);
        due("errorAt of " + text, x.errorAt(), at);
    }

    /** The error has to be where the sign ^ stands, which is not itself a part of the text. */
    static void dueErrorAtMark(String text, int error) {
        int at = text.indexOf('^');
        dueError(text.substring(0, at) + text.substring(at + 1), error, at);
    }

    static String repeat(String text, int times) {
        return text.repeat(times);
    }

    static void end(String test) {
        System.out.println(test + ": " + made + " checks, " + wrong + " wrong");
        if (wrong != 0) {
            System.exit(1);
        }
    }

    private static void complain(String text) {
        wrong++;
        if (wrong <= 50) {
            System.out.println(text + (sentence.isEmpty() ? "" : " [" + sentence + "]"));
        }
    }
}
