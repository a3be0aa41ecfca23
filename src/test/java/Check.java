/** Counts answers that are not the ones due, and ends a test. */
final class Check {
    private static final int MOST_TOLD = 40;
    private int wrong;
    private int asked;

    void due(String call, long got, long want) {
        asked++;
        if (got != want) {
            wrong++;
            if (wrong <= MOST_TOLD) {
                System.out.println(call + " answered " + got + ", due is " + want);
            }
        }
    }

    void isTrue(String what, boolean holds) {
        due(what, holds ? 1 : 0, 1);
    }

    int wrong() {
        return wrong;
    }

    void end(String test) {
        System.out.println(test + ": " + asked + " asked, " + wrong + " wrong");
        if (wrong != 0 || asked == 0) {
            System.exit(1);
        }
    }

    /** An object on the coast that a text tells. */
    static SaidMine coast(String text) {
        SaidMine x = new SaidMine();
        write(x, text);
        if (x.coast() < 0) {
            throw new IllegalArgumentException("no coast: " + text);
        }
        return x;
    }

    static void write(SaidMine x, String text) {
        x.wipe();
        for (int i = 0; i < text.length(); i++) {
            x.write(text.charAt(i));
        }
    }
}
