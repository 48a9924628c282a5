import java.util.Arrays;

/** What the tests share: due answers, counted when they are wrong, and texts for the pad. */
final class Checks {
    // A clerk has 20 counts, 16 rows, 6 stamps with 5 numbers each, 96 places for pegs, and a fault.
    private static final int TOLD = 20 + 16 + 30 + 96 + 1;

    private static int checked = 0;
    private static int wrong = 0;
    private static String sentence = "";

    private Checks() {
    }

    /** The sentence of the document that the checks from here on belong to. */
    static void about(String words) {
        sentence = "\"" + words + "\": ";
    }

    static void due(String what, long got, long want) {
        checked++;
        if (got != want) {
            wrong++;
            System.out.println(sentence + what + " answered " + got + ", due is " + want);
        }
    }

    /** Numbers outside of a range: close by, far away, and those that would be inside if bits were lost. */
    static int[] outside(int least, int most) {
        return new int[] {least - 1, most + 1, Integer.MIN_VALUE, Integer.MAX_VALUE,
            most + 0x100, least + 0x10000, least - 0x10000, least + Integer.MIN_VALUE};
    }

    /** The number that put takes for these characters, of which there are at most eight. */
    static long packed(String text) {
        long number = 0;
        for (int i = 0; i < text.length(); i++) {
            number = number << 8 | text.charAt(i);
        }
        return number;
    }

    static void write(PegClerks clerk, String text) {
        for (int from = 0; from < text.length(); from += 8) {
            int to = Math.min(from + 8, text.length());
            due("put of " + text.substring(from, to), clerk.put(packed(text.substring(from, to))), to);
        }
    }

    /** A clerk whose drum was read from a text; one change can be undone in it. */
    static PegClerks withDrum(String text) {
        PegClerks clerk = new PegClerks();
        write(clerk, text);
        if (clerk.read() < 0) {
            due("read of " + text, PegClerks.BAD_TEXT, 0);
        }
        return clerk;
    }

    /** Everything that the clerk answers about itself; what follows from its rows is not asked, to save calls. */
    static int[] told(PegClerks clerk) {
        int[] told = new int[TOLD];
        int at = 0;
        for (int what = 0; what < 20; what++) {
            told[at++] = clerk.count(what);
        }
        for (int row = 0; row < 16; row++) {
            told[at++] = clerk.row(row, 0);
        }
        for (int stamp = 0; stamp < 6; stamp++) {
            for (int what = 0; what < 5; what++) {
                told[at++] = clerk.stamp(stamp, what);
            }
        }
        for (int row = 0; row < 16; row++) {
            for (int place = 0; place < 6; place++) {
                boolean there = (told[20 + row] >> place & 1) != 0;
                told[at++] = there ? clerk.stamped(row, place) : PegClerks.NONE;
            }
        }
        told[at] = clerk.fault();
        return told;
    }

    /** All that is told of the clerk, but for the pad and the history where they do not matter. */
    static String state(PegClerks clerk, boolean padAndHistory) {
        int[] told = told(clerk);
        if (!padAndHistory) {
            told[18] = 0;
            told[19] = 0;
            told[TOLD - 1] = 0;
        }
        return Arrays.toString(told);
    }

    /** All that is told of the clerk but for some of its counts. */
    static String stateBut(PegClerks clerk, int... counts) {
        int[] told = told(clerk);
        for (int what : counts) {
            told[what] = 0;
        }
        return Arrays.toString(told);
    }

    static void sameState(String what, String got, String want) {
        checked++;
        if (!got.equals(want)) {
            wrong++;
            System.out.println(sentence + what + ": the state is\n  " + got + "\ndue is\n  " + want);
        }
    }

    static void end() {
        System.out.println(checked + " checks, " + wrong + " wrong");
        if (wrong != 0) {
            System.exit(1);
        }
    }
}
