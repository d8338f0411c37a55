/** Counts answers that are not as due and tells them. */
final class Check {
    private int wrong;
    private int asked;

    void due(String call, long got, long want) {
        asked++;
        if (got != want) {
            wrong++;
            System.out.println(call + " answered " + got + ", due is " + want);
        }
    }

    void holds(String what, boolean isSo) {
        asked++;
        if (!isSo) {
            wrong++;
            System.out.println("does not hold: " + what);
        }
    }

    /** Counts what another one asked, too. */
    void take(Check other) {
        asked += other.asked;
        wrong += other.wrong;
    }

    /** Ends the test: exit code 1 if something was wrong, or if nothing was asked. */
    void end(String test) {
        System.out.println(test + ": " + asked + " asked, " + wrong + " wrong");
        if (wrong != 0 || asked == 0) {
            System.exit(1);
        }
    }

    /** Letters as letters() takes them, from a place of the text on. */
    static long packed(String text, int from) {
        long w = 0;
        for (int i = 0; i < 8 && from + i < text.length(); i++) {
            w |= (long) text.charAt(from + i) << (8 * i);
        }
        return w;
    }

    static void write(WaterShoulders x, String text) {
        for (int from = 0; from < text.length(); from += 8) {
            x.letters(packed(text, from));
        }
    }

    static WaterShoulders onStair(String text) {
        WaterShoulders x = new WaterShoulders();
        write(x, text);
        if (x.stair() != (text.length() + 1) / 3) {
            throw new IllegalStateException("no stair: " + text);
        }
        return x;
    }
}
