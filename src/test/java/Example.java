/** The example of README.md. */
public final class Example {
    private static final String ORDERS = """
            cask rye biscuits 240 weevils 130 damp 6;
            cask oat biscuits 300 weevils 5 damp 2;
            mess fore men 8 proud 9;
            mess aft men 5 proud 4;
            issue fore from rye when taps rye < 3;
            issue fore from oat;
            issue aft from oat;
            sift rye when weevils rye > 100 and day >= 3;
            throw rye when biscuits rye * 2 < weevils rye or temper fore >= 50;
            """;

    /** Puts the text onto the tape, which is empty, 20 bytes a call, and cuts off what is too much. */
    static void write(BiscuitMess ship, String text) {
        for (int at = 0; at < text.length(); at += 20) {
            ship.feed(four(text, at), four(text, at + 4), four(text, at + 8), four(text, at + 12), four(text, at + 16));
        }
        ship.trim(text.length());
    }

    /** Four bytes of the text as one number, the highest one first; blanks behind its end. */
    static int four(String text, int from) {
        int number = 0;
        for (int at = from; at < from + 4; at++) {
            number = number << 8 | (at < text.length() ? text.charAt(at) & 255 : ' ');
        }
        return number;
    }

    public static void main(String[] args) {
        BiscuitMess ship = new BiscuitMess();
        write(ship, "cask rye biscuits 1000 weevils 130 damp 6;");
        System.out.println("error " + ship.teach() + " at byte " + ship.errorAt());
        write(ship, ORDERS);
        System.out.println("error " + ship.teach() + ", " + ship.count(2) + " casks, " + ship.count(4) + " messes");
        System.out.println("weevils among 10 biscuits of rye: " + ship.tap(0, 10));
        System.out.println("rye lasts " + ship.lasts(0) + " days, oat " + ship.lasts(1));
        System.out.println("fore has a temper of 20 behind " + ship.mutiny(0, 20) + " days");
        System.out.println("complaints in 30 days: " + ship.foresee(30, 0));
        System.out.println("best ration for 30 days: " + ship.advise(30) + ", best to sift now: " + ship.choose(30));
        System.out.println("sifted out of rye: " + ship.sift(0) + " weevils");
        System.out.println("complaints in 7 days: " + ship.pass(7));
        System.out.println("day " + ship.count(0) + ": rye " + ship.cask(0, 0) + " biscuits, oat " + ship.cask(1, 0));
        System.out.println("fore got " + ship.mess(0, 3) + " biscuits, " + ship.mess(0, 6) + " in all");
        System.out.println("oat is filled to " + ship.fill(1, 500) + ", dried from a damp of " + ship.dry(1));
        System.out.println("the ration was " + ship.setRation(2) + ", mean " + ship.mean());
        System.out.println("digest " + ship.digest());
    }
}
