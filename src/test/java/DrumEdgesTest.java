/** The edges of the sentences on settings, drum and stamps, and of promises 1 to 5: a method for each sentence. */
public final class DrumEdgesTest {
    private static final int NO_SUCH = PegClerks.NO_SUCH;
    private static final int BAD_VALUE = PegClerks.BAD_VALUE;
    private static final int NOT_POSSIBLE = PegClerks.NOT_POSSIBLE;
    private static final int NONE = PegClerks.NONE;

    public static void main(String[] args) {
        form();
        inkThatAMarkTakes();
        life();
        doubles();
        noSuchSetting();
        previousValueOfASetting();
        rowsAndPlaces();
        noPegsAtFirst();
        stampsAndTheirFirstInk();
        inkFromNothingToFull();
        firstRow();
        firstOrder();
        anEmptyDrumAheadOfTheFirstForm();
        pegInAndOut();
        pegsOfARowFromNoneToAll();
        pegOfNoSuchPlace();
        pegInAJammedRow();
        orderOfNoneAndAll();
        orderOutOfRange();
        inkUpToFull();
        inkOfNoSuchStamp();
        Checks.end();
    }

    private static void about(String sentence) {
        Checks.about(sentence);
    }

    private static void due(String what, long got, long want) {
        Checks.due(what, got, want);
    }

    // ---- settings

    private static void form() {
        about("FORM (1 to 8; 4)");
        settingOf(PegClerks.FORM, 1, 8, 4);
    }

    private static void inkThatAMarkTakes() {
        about("INK (0 to 9; 1)");
        settingOf(PegClerks.INK, 0, 9, 1);
    }

    private static void life() {
        about("LIFE (0 to 99; 0)");
        settingOf(PegClerks.LIFE, 0, 99, 0);
    }

    private static void doubles() {
        about("DOUBLES (1 to 4; 1)");
        settingOf(PegClerks.DOUBLES, 1, 4, 1);
    }

    private static void settingOf(int setting, int least, int most, int first) {
        PegClerks x = new PegClerks();
        due("the first value", x.count(setting), first);
        for (int off : Checks.outside(least, most)) {
            due("set to " + off, x.set(setting, off), BAD_VALUE);
            due("the value stays with " + off, x.count(setting), first);
        }
        due("no change", x.count(19), 0);
        int before = first;
        for (int value = least; value <= most; value++) {
            due("set to " + value, x.set(setting, value), before);
            due("the value", x.count(setting), value);
            before = value;
        }
        due("set from the most to the least", x.set(setting, least), most);
        due("the least", x.count(setting), least);
    }

    private static void noSuchSetting() {
        about("BAD_VALUE if there is no such setting, or value is out of its range");
        PegClerks x = new PegClerks();
        String before = Checks.state(x, true);
        for (int off : Checks.outside(0, 3)) {
            for (int value = -1; value <= 9; value++) {
                due("set(" + off + ", " + value + ")", x.set(off, value), BAD_VALUE);
            }
        }
        Checks.sameState("no such setting", Checks.state(x, true), before);
        due("a value of another setting's range", x.set(PegClerks.DOUBLES, 8), BAD_VALUE);
        due("the most of LIFE for INK", x.set(PegClerks.INK, 99), BAD_VALUE);
        due("the least of INK for FORM", x.set(PegClerks.FORM, 0), BAD_VALUE);
    }

    private static void previousValueOfASetting() {
        about("Returns the previous value");
        PegClerks x = new PegClerks();
        due("the same value as at first", x.set(PegClerks.LIFE, 0), 0);
        due("is a change", x.count(19), 1);
        due("a value of 0 is no error", x.set(PegClerks.INK, 0), 1);
        due("previous value 0", x.set(PegClerks.INK, 9), 0);
        due("a refused value", x.set(PegClerks.INK, 10), BAD_VALUE);
        due("the previous one is that before the refused one", x.set(PegClerks.INK, 1), 9);
    }

    // ---- drum, stamps

    private static void rowsAndPlaces() {
        about("The drum has 16 rows, 0 to 15, and 6 places in each, 0 to 5");
        PegClerks x = new PegClerks();
        for (int row = 0; row < 16; row++) {
            for (int place = 0; place < 6; place++) {
                due("peg(" + row + ", " + place + ")", x.peg(row, place), place + 1);
            }
            due("row(" + row + ", 0)", x.row(row, 0), 63);
        }
        due("a full drum", x.count(15), 96);
        for (int stamp = 0; stamp < 6; stamp++) {
            due("pegs of stamp " + stamp, x.stamp(stamp, 3), 16);
        }
        for (int off : Checks.outside(0, 15)) {
            due("row(" + off + ", 0)", x.row(off, 0), NO_SUCH);
            due("stamped(" + off + ", 0)", x.stamped(off, 0), NO_SUCH);
            due("peg(" + off + ", 0)", x.peg(off, 0), NO_SUCH);
        }
        for (int off : Checks.outside(0, 5)) {
            due("stamped(0, " + off + ")", x.stamped(0, off), NO_SUCH);
            due("stamped(15, " + off + ")", x.stamped(15, off), NO_SUCH);
            due("peg(15, " + off + ")", x.peg(15, off), NO_SUCH);
        }
        due("full still", x.count(15), 96);
        due("it jams at once", x.step(1), 0);
        for (int row = 15; row >= 0; row--) {
            for (int place = 5; place >= 0; place--) {
                due("peg(" + row + ", " + place + ") out", x.peg(row, place), place);
            }
        }
        due("an empty drum", x.count(15), 0);
    }

    private static void noPegsAtFirst() {
        about("at each there is a peg or not (none at first)");
        PegClerks x = new PegClerks();
        for (int row = 0; row < 16; row++) {
            due("row(" + row + ", 0)", x.row(row, 0), 0);
            due("row(" + row + ", 1)", x.row(row, 1), 0);
            due("row(" + row + ", 2)", x.row(row, 2), 0);
            for (int place = 0; place < 6; place++) {
                due("stamped(" + row + ", " + place + ")", x.stamped(row, place), NONE);
            }
        }
        due("pegs of the drum", x.count(15), 0);
    }

    private static void stampsAndTheirFirstInk() {
        about("There are 6 stamps, 0 to 5, one for each place, with ink, 0 to 99 (50 at first)");
        for (int stamp = 0; stamp < 6; stamp++) {
            PegClerks x = new PegClerks();
            due("ink of " + stamp, x.stamp(stamp, 0), 50);
            x.peg(0, stamp);
            x.step(1);
            for (int other = 0; other < 6; other++) {
                due("marks of " + other + " by place " + stamp, x.stamp(other, 1), other == stamp ? 1 : 0);
                due("ink of " + other + " by place " + stamp, x.stamp(other, 0), other == stamp ? 49 : 50);
            }
            due("the form has", x.count(7), 1 << stamp);
        }
        PegClerks x = new PegClerks();
        for (int off : Checks.outside(0, 5)) {
            due("stamp(" + off + ", 0)", x.stamp(off, 0), NO_SUCH);
        }
    }

    private static void inkFromNothingToFull() {
        about("with ink, 0 to 99");
        PegClerks x = Checks.withDrum("0:0");
        x.set(PegClerks.INK, 5);
        for (int turn = 1; turn <= 10; turn++) {
            x.step(16);
            due("ink behind turn " + turn, x.stamp(0, 0), 50 - 5 * turn);
        }
        x.step(16);
        due("never less than 0", x.stamp(0, 0), 0);
        due("ink(0) of a dry one", x.ink(0), 99);
        due("never more than 99", x.ink(0), 0);
        due("full", x.stamp(0, 0), 99);
    }

    private static void firstRow() {
        about("The drum stands at a row (0 at first)");
        PegClerks x = new PegClerks();
        due("count(4)", x.count(4), 0);
        due("row(0, 3)", x.row(0, 3), 0);
        due("row(1, 3)", x.row(1, 3), 1);
        due("row(15, 3)", x.row(15, 3), 15);
    }

    private static void firstOrder() {
        about("the order (0 at first: none)");
        PegClerks x = new PegClerks();
        due("count(6)", x.count(6), 0);
        x.step(4);
        due("a form without stamps is right", x.count(11), 1);
        x.peg(4, 0);
        x.step(4);
        due("one with a stamp is wrong", x.count(12), 1);
    }

    // Promise 1
    private static void anEmptyDrumAheadOfTheFirstForm() {
        about("Creates a clerk with an empty drum, ahead of the first form");
        PegClerks x = new PegClerks();
        int[] firstCounts = {4, 1, 0, 1};
        for (int what = 0; what < 20; what++) {
            due("count(" + what + ")", x.count(what), what < 4 ? firstCounts[what] : 0);
        }
        due("newForm() finds no stamps", x.newForm(), 0);
        PegClerks y = new PegClerks();
        due("free()", y.free(), NOT_POSSIBLE);
        due("undo()", y.undo(), NOT_POSSIBLE);
        due("restore(0)", y.restore(0), NOT_POSSIBLE);
        due("restore(1)", y.restore(1), NOT_POSSIBLE);
        due("wipe()", y.wipe(), 0);
        due("read()", y.read(), PegClerks.BAD_TEXT);
        due("untilJam()", y.untilJam(), NONE);
        due("bestOut()", y.bestOut(), NONE);
        due("the first form needs FORM steps", y.step(3) + y.count(11), 3);
        due("and is done then", y.step(1) + y.count(11), 2);
    }

    // ---- promise 3

    private static void pegInAndOut() {
        about("Puts a peg in, or takes it out, if there is one");
        int[][] corners = {{0, 0}, {0, 5}, {15, 0}, {15, 5}};
        for (int[] at : corners) {
            PegClerks x = new PegClerks();
            due("in", x.peg(at[0], at[1]), 1);
            due("there", x.row(at[0], 0), 1 << at[1]);
            due("on the drum", x.count(15), 1);
            due("out", x.peg(at[0], at[1]), 0);
            due("not there", x.row(at[0], 0), 0);
            due("not on the drum", x.count(15), 0);
            due("none fell out", x.count(16), 0);
            due("in anew", x.peg(at[0], at[1]), 1);
            due("changes", x.count(19), 3);
        }
    }

    private static void pegsOfARowFromNoneToAll() {
        about("Returns how many pegs the row has then");
        PegClerks x = Checks.withDrum("6:012345;8:012345");
        for (int place = 5; place >= 0; place--) {
            due("in at " + place, x.peg(7, place), 6 - place);
        }
        for (int place = 0; place < 6; place++) {
            due("out at " + place, x.peg(7, place), 5 - place);
        }
        due("the row ahead", x.row(6, 1), 6);
        due("the row behind", x.row(8, 1), 6);
    }

    private static void pegOfNoSuchPlace() {
        about("peg: NO_SUCH if there is no such row or place");
        PegClerks x = Checks.withDrum("0:0;15:5");
        String before = Checks.state(x, true);
        for (int row : Checks.outside(0, 15)) {
            due("peg(" + row + ", 5)", x.peg(row, 5), NO_SUCH);
            for (int place : Checks.outside(0, 5)) {
                due("peg(" + row + ", " + place + ")", x.peg(row, place), NO_SUCH);
            }
        }
        for (int place : Checks.outside(0, 5)) {
            due("peg(0, " + place + ")", x.peg(0, place), NO_SUCH);
        }
        Checks.sameState("nothing is different", Checks.state(x, true), before);
    }

    private static void pegInAJammedRow() {
        about("peg: this is a change, of a jammed clerk, too");
        PegClerks x = Checks.withDrum("0:012");
        x.step(1);
        due("out of the jammed row", x.peg(0, 2), 2);
        due("out of it", x.peg(0, 1), 1);
        due("out of it, the last", x.peg(0, 0), 0);
        due("it is jammed still", x.count(5), 1);
        due("no step can be done", x.step(1), NOT_POSSIBLE);
        due("free()", x.free(), 0);
    }

    // ---- promise 4

    private static void orderOfNoneAndAll() {
        about("stamps: 0 to 63, a set; returns the previous order");
        PegClerks x = new PegClerks();
        int before = 0;
        for (int stamps = 63; stamps >= 0; stamps--) {
            due("order(" + stamps + ")", x.order(stamps), before);
            due("the order", x.count(6), stamps);
            before = stamps;
        }
        due("the same order", x.order(0), 0);
        PegClerks all = Checks.withDrum("0:0123;1:45");
        all.set(PegClerks.DOUBLES, 4);
        all.order(63);
        all.step(4);
        due("all six stamps are right", all.count(11), 1);
        all.order(62);
        all.step(16);
        due("one too many is wrong", all.count(12), 4);
    }

    private static void orderOutOfRange() {
        about("BAD_VALUE if stamps is out of range");
        PegClerks x = new PegClerks();
        x.order(37);
        String before = Checks.state(x, true);
        for (int off : Checks.outside(0, 63)) {
            due("order(" + off + ")", x.order(off), BAD_VALUE);
        }
        Checks.sameState("nothing is different", Checks.state(x, true), before);
    }

    // ---- promise 5

    private static void inkUpToFull() {
        about("Inks a stamp, up to 99. Returns by how much its ink is more");
        PegClerks x = new PegClerks();
        for (int stamp = 0; stamp < 6; stamp++) {
            due("ink(" + stamp + ")", x.ink(stamp), 49);
            due("ink is", x.stamp(stamp, 0), 99);
            due("ink of the next", x.stamp((stamp + 1) % 6, 0), stamp == 5 ? 99 : 50);
        }
        due("ink() of a full one", x.ink(3), 0);
        due("is a change, too", x.count(19), 6);
        PegClerks y = Checks.withDrum("0:3");
        y.ink(3);
        y.step(1);
        due("ink() of a nearly full one", y.ink(3), 1);
    }

    private static void inkOfNoSuchStamp() {
        about("ink: NO_SUCH if there is no such stamp");
        PegClerks x = new PegClerks();
        String before = Checks.state(x, true);
        for (int off : Checks.outside(0, 5)) {
            due("ink(" + off + ")", x.ink(off), NO_SUCH);
        }
        Checks.sameState("nothing is different", Checks.state(x, true), before);
    }
}
