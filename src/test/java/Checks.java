/** What the tests share: due answers, counted when they are wrong, and texts for the pad. */
final class Checks {
    private static int checked = 0;
    private static int wrong = 0;

    private Checks() {
    }

    static void due(String what, long got, long want) {
        checked++;
        if (got != want) {
            wrong++;
            System.out.println(what + " answered " + got + ", due is " + want);
        }
    }

    /** The number that put takes for these characters, of which there are at most eight. */
    static long packed(String text) {
        long number = 0;
        for (int i = 0; i < text.length(); i++) {
            number = number << 8 | text.charAt(i);
        }
        return number;
    }

    static void write(PegClerks clerk, String text) {
        for (int from = 0; from < text.length(); from += 8) {
            int to = Math.min(from + 8, text.length());
            due("put of " + text.substring(from, to), clerk.put(packed(text.substring(from, to))), to);
        }
    }

    /** A clerk whose drum was read from a text; one change can be undone in it. */
    static PegClerks withDrum(String text) {
        PegClerks clerk = new PegClerks();
        write(clerk, text);
        if (clerk.read() < 0) {
            due("read of " + text, PegClerks.BAD_TEXT, 0);
        }
        return clerk;
    }

    /** Everything that the clerk answers about itself, but for the pad and the history where asked. */
    static String state(PegClerks clerk, boolean padAndHistory) {
        StringBuilder told = new StringBuilder();
        for (int what = 0; what < (padAndHistory ? 20 : 18); what++) {
            told.append(clerk.count(what)).append(' ');
        }
        for (int row = 0; row < 16; row++) {
            told.append(clerk.row(row, 0)).append(' ');
            for (int place = 0; place < 6; place++) {
                told.append(clerk.stamped(row, place)).append(' ');
            }
        }
        for (int stamp = 0; stamp < 6; stamp++) {
            for (int what = 0; what < 5; what++) {
                told.append(clerk.stamp(stamp, what)).append(' ');
            }
        }
        if (padAndHistory) {
            told.append(clerk.fault());
        }
        return told.toString();
    }

    static void sameState(String what, String got, String want) {
        checked++;
        if (!got.equals(want)) {
            wrong++;
            System.out.println(what + ": the state is\n  " + got + "\ndue is\n  " + want);
        }
    }

    static void end() {
        System.out.println(checked + " checks, " + wrong + " wrong");
        if (wrong != 0) {
            System.exit(1);
        }
    }
}
