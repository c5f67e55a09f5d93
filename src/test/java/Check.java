/** Counts and prints the answers that are not the ones due. */
final class Check {
    static final int BEYOND = -1000001;
    static final int FULL = -1000002;
    static final int KIND = -1000003;
    static final int NONE = -1000004;
    static final int STATE = -1000005;
    static final int MISSING = -1000006;
    static final int SIZE = -1000007;

    private static int asked = 0;
    private static int wrong = 0;

    private Check() {
    }

    static void due(String call, long got, long want) {
        asked++;
        if (got != want) {
            wrong++;
            System.out.println(call + " answered " + got + ", due is " + want);
        }
    }

    static void holds(String what, boolean isSo) {
        due(what, isSo ? 1 : 0, 1);
    }

    /** Feeds a text's characters as bytes. */
    static void feed(SandLedger x, String text) {
        for (int i = 0; i < text.length(); i++) {
            due("feed " + text, x.feed(text.charAt(i), 1), i + 1);
        }
    }

    /** What text() answers to that text on an empty tape. */
    static int read(SandLedger x, String text) {
        feed(x, text);
        return x.text();
    }

    /** A sheet laid out with just these numbers. */
    static void fill(SandLedger x, int s, int bits, int... numbers) {
        due("sheet", x.sheet(s, bits, numbers.length), numbers.length);
        for (int i = 0; i < numbers.length; i++) {
            due("write", x.write(s, i, numbers[i]), 1);
        }
    }

    /** Sand of cells 0, 1, .. becomes this. */
    static void pour(SandLedger x, int... sand) {
        for (int i = 0; i < sand.length; i++) {
            x.sand(i, sand[i]);
        }
    }

    /** Sand of all cells becomes this. */
    static void level(SandLedger x, int sand) {
        for (int cell = 0; cell < 16; cell++) {
            x.sand(cell, sand);
        }
    }

    /** A visitor's kind, from, wide, high, each, age, built. */
    static void traitsAre(String when, SandLedger x, int visitor, int... due) {
        for (int what = 0; what < due.length; what++) {
            due(when + ": of(" + visitor + ", " + what + ")", x.of(visitor, what), due[what]);
        }
    }

    static void sandIs(String when, SandLedger x, int... sand) {
        for (int i = 0; i < sand.length; i++) {
            due(when + ": sand of cell " + i, x.cell(i, 0), sand[i]);
        }
    }

    static void end(String name) {
        System.out.println(name + ": " + asked + " answers asked, " + wrong + " wrong");
        if (wrong != 0 || asked == 0) {
            System.exit(1);
        }
    }
}
