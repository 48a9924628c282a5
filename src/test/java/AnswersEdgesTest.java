/** The edges of the sentences of promises 10 to 17, what there is and what if: a method for each sentence. */
public final class AnswersEdgesTest {
    private static final int NO_SUCH = PegClerks.NO_SUCH;
    private static final int BAD_VALUE = PegClerks.BAD_VALUE;
    private static final int NOT_POSSIBLE = PegClerks.NOT_POSSIBLE;
    private static final int NONE = PegClerks.NONE;

    public static void main(String[] args) {
        pegsOfARowAsASet();
        rowWouldJam();
        inHowManyRows();
        rowOfNoSuch();
        stampedOfAPeg();
        stampedOfNoSuch();
        stampsNumbersApart();
        stampOfNoSuch();
        settingsAsNumbers();
        lengthOfThePad();
        changesThatCanBeUndone();
        countOutOfRange();
        nextOneJamsOrIsJammed();
        jamWithinATurn();
        noJamWithin500();
        nothingElseIsDone();
        ifSteppedFrom1To500();
        ifSteppedUpToAJam();
        ifSteppedOfTheFormBeneath();
        ifSteppedWithoutWhatWasSoFar();
        ifSteppedBehindTheMostSteps();
        ifSteppedOutOfRange();
        noPegIsBest();
        moreThanWithIt();
        lowestRowLowestPlace();
        next64Steps();
        bestOutOfAJam();
        bestOutWhenJammed();
        nextStampsBehind15();
        nextStampsOfFormFrom1To8();
        nextStampsWithInkEnough();
        nextStampsOfANewForm();
        nextStampsWithoutJams();
        neitherWay();
        Checks.end();
    }

    private static void about(String sentence) {
        Checks.about(sentence);
    }

    private static void due(String what, long got, long want) {
        Checks.due(what, got, want);
    }

    // ---- promise 10

    private static void pegsOfARowAsASet() {
        about("0 its pegs, as a set, 1 how many");
        for (int set = 0; set < 64; set++) {
            PegClerks x = new PegClerks();
            for (int place = 0; place < 6; place++) {
                if ((set >> place & 1) == 1) {
                    x.peg(15, place);
                }
            }
            due("row(15, 0)", x.row(15, 0), set);
            due("row(15, 1)", x.row(15, 1), Integer.bitCount(set));
            due("row(14, 0)", x.row(14, 0), 0);
            due("row(0, 1)", x.row(0, 1), 0);
        }
    }

    private static void rowWouldJam() {
        about("2 whether it would jam (1 or 0)");
        for (int pegs = 0; pegs <= 6; pegs++) {
            PegClerks x = Checks.withDrum("9:" + "012345".substring(0, pegs));
            for (int doubles = 1; doubles <= 4; doubles++) {
                x.set(PegClerks.DOUBLES, doubles);
                due(pegs + " pegs with DOUBLES " + doubles, x.row(9, 2), pegs > doubles ? 1 : 0);
            }
        }
    }

    private static void inHowManyRows() {
        about("3 in how many rows the drum comes to it (0 if it stands there)");
        PegClerks x = new PegClerks();
        for (int at = 0; at < 16; at++) {
            for (int row = 0; row < 16; row++) {
                int rows = row < at ? row + 16 - at : row - at;
                due("row(" + row + ", 3) at " + at, x.row(row, 3), rows);
            }
            x.step(1);
        }
        due("row(0, 3) a turn on", x.row(0, 3), 0);
    }

    private static void rowOfNoSuch() {
        about("NO_SUCH if there is no such row; BAD_VALUE if what is out of range");
        PegClerks x = Checks.withDrum("0:012345;15:012345");
        for (int row : Checks.outside(0, 15)) {
            for (int what = 0; what <= 3; what++) {
                due("row(" + row + ", " + what + ")", x.row(row, what), NO_SUCH);
            }
            for (int what : Checks.outside(0, 3)) {
                due("row(" + row + ", " + what + "): the first error", x.row(row, what), NO_SUCH);
            }
        }
        for (int what : Checks.outside(0, 3)) {
            due("row(0, " + what + ")", x.row(0, what), BAD_VALUE);
            due("row(15, " + what + ")", x.row(15, what), BAD_VALUE);
        }
        due("row(15, 0)", x.row(15, 0), 63);
        due("row(0, 3)", x.row(0, 3), 0);
    }

    // ---- promise 11

    private static void stampedOfAPeg() {
        about("Returns how often a peg has stamped; NONE if there is no peg");
        PegClerks x = Checks.withDrum("0:0;15:5");
        due("0 is not NONE", x.stamped(0, 0), 0);
        due("no peg at the other place", x.stamped(0, 5), NONE);
        due("no peg in the other row", x.stamped(15, 0), NONE);
        x.step(16);
        due("stamped(0, 0)", x.stamped(0, 0), 1);
        due("stamped(15, 5)", x.stamped(15, 5), 1);
        x.step(1);
        due("a turn on", x.stamped(0, 0), 2);
        x.peg(0, 0);
        due("taken out", x.stamped(0, 0), NONE);
        x.set(PegClerks.LIFE, 1);
        x.step(15);
        due("fallen out", x.stamped(15, 5), NONE);
    }

    private static void stampedOfNoSuch() {
        about("stamped: NO_SUCH if there is no such row or place; NONE if there is no peg");
        PegClerks x = new PegClerks();
        for (int row : Checks.outside(0, 15)) {
            due("stamped(" + row + ", 0)", x.stamped(row, 0), NO_SUCH);
            for (int place : Checks.outside(0, 5)) {
                due("stamped(" + row + ", " + place + ")", x.stamped(row, place), NO_SUCH);
            }
        }
        for (int place : Checks.outside(0, 5)) {
            due("stamped(0, " + place + ")", x.stamped(0, place), NO_SUCH);
            due("stamped(15, " + place + ")", x.stamped(15, place), NO_SUCH);
        }
        due("stamped(15, 5)", x.stamped(15, 5), NONE);
    }

    // ---- promise 12

    private static void stampsNumbersApart() {
        about("0 its ink, 1 marks so far, 2 without a mark so far, 3 its pegs on the drum, 4 how often it spoiled");
        PegClerks x = Checks.withDrum("0:0;1:0;2:0;8:5");
        x.set(PegClerks.INK, 9);
        x.step(41);
        int[][] want = {{5, 5, 4, 3, 4}, {50, 0, 0, 0, 0}, {50, 0, 0, 0, 0}, {50, 0, 0, 0, 0}, {50, 0, 0, 0, 0},
            {23, 3, 0, 1, 0}};
        for (int turn = 0; turn < 2; turn++) {
            for (int stamp = 0; stamp < 6; stamp++) {
                for (int what = 0; what <= 4; what++) {
                    due("stamp(" + stamp + ", " + what + ")", x.stamp(stamp, what), want[stamp][what]);
                }
            }
            // A form taken away, and pegs that are taken out, leave what was so far.
            x.newForm();
            x.peg(8, 5);
            x.ink(0);
            want[5][3] = 0;
            want[0][0] = 99;
        }
    }

    private static void stampOfNoSuch() {
        about("NO_SUCH if there is no such stamp; BAD_VALUE if what is out of range");
        PegClerks x = new PegClerks();
        for (int stamp : Checks.outside(0, 5)) {
            for (int what = 0; what <= 4; what++) {
                due("stamp(" + stamp + ", " + what + ")", x.stamp(stamp, what), NO_SUCH);
            }
            for (int what : Checks.outside(0, 4)) {
                due("stamp(" + stamp + ", " + what + "): the first error", x.stamp(stamp, what), NO_SUCH);
            }
        }
        for (int what : Checks.outside(0, 4)) {
            due("stamp(0, " + what + ")", x.stamp(0, what), BAD_VALUE);
            due("stamp(5, " + what + ")", x.stamp(5, what), BAD_VALUE);
        }
    }

    // ---- promise 13

    private static void settingsAsNumbers() {
        about("0 to 3 the settings");
        PegClerks x = new PegClerks();
        int[] values = {8, 0, 99, 4};
        for (int setting = 0; setting < 4; setting++) {
            x.set(setting, values[setting]);
        }
        for (int setting = 0; setting < 4; setting++) {
            due("count(" + setting + ")", x.count(setting), values[setting]);
        }
        due("count(4) is no setting", x.count(4), 0);
    }

    private static void lengthOfThePad() {
        about("18 the length of the pad");
        PegClerks x = new PegClerks();
        due("empty", x.count(18), 0);
        for (int length = 1; length <= 60; length++) {
            x.put('!');
            due("count(18)", x.count(18), length);
        }
        x.put('!');
        due("full", x.count(18), 60);
        x.wipe();
        due("wiped", x.count(18), 0);
    }

    private static void changesThatCanBeUndone() {
        about("19 how many changes can be undone");
        PegClerks x = new PegClerks();
        for (int changes = 0; changes <= 20; changes++) {
            due("behind " + changes + " changes", x.count(19), Math.min(changes, 6));
            x.newForm();
        }
        for (int left = 5; left >= 0; left--) {
            x.undo();
            due("left", x.count(19), left);
        }
        x.undo();
        due("none is left", x.count(19), 0);
    }

    private static void countOutOfRange() {
        about("count: BAD_VALUE if what is out of range");
        PegClerks x = Checks.withDrum("0:0");
        String before = Checks.state(x, true);
        for (int what : Checks.outside(0, 19)) {
            due("count(" + what + ")", x.count(what), BAD_VALUE);
        }
        due("count(19)", x.count(19), 1);
        due("count(0)", x.count(0), 4);
        Checks.sameState("nothing is different", Checks.state(x, true), before);
    }

    // ---- promise 14

    private static void nextOneJamsOrIsJammed() {
        about("0 if the next one jams, or it is jammed");
        PegClerks x = Checks.withDrum("0:01;15:45");
        due("the next one jams", x.untilJam(), 0);
        due("it is not jammed by that", x.count(5), 0);
        x.step(1);
        due("it is jammed", x.untilJam(), 0);
        x.peg(0, 0);
        x.peg(0, 1);
        due("jammed, though the row has no pegs", x.untilJam(), 0);
        x.set(PegClerks.DOUBLES, 4);
        due("jammed, though no row would jam", x.untilJam(), 0);
        x.free();
        due("freed", x.untilJam(), NONE);
    }

    private static void jamWithinATurn() {
        about("Tells behind how many steps the clerk jams");
        for (int at = 0; at < 16; at++) {
            PegClerks x = new PegClerks();
            if (at > 0) {
                x.step(at);
            }
            x.peg(5, 0);
            x.peg(5, 1);
            int steps = (5 + 16 - at) % 16;
            due("from row " + at, x.untilJam(), steps);
            due("so many steps are done", x.step(200), steps);
        }
        PegClerks two = Checks.withDrum("3:01;9:01");
        due("the next of two", two.untilJam(), 3);
        two.step(3);
        due("no step is left", two.untilJam(), 0);
        two.step(1);
        two.free();
        due("the other one", two.untilJam(), 5);
    }

    private static void noJamWithin500() {
        about("NONE if it does not within 500");
        PegClerks x = new PegClerks();
        due("an empty drum", x.untilJam(), NONE);
        for (int row = 0; row < 16; row++) {
            for (int place = 0; place < 4; place++) {
                x.peg(row, place);
            }
        }
        x.set(PegClerks.DOUBLES, 4);
        due("just DOUBLES pegs in each row", x.untilJam(), NONE);
        x.step(200);
        due("and it does not", x.untilJam(), NONE);
        x.set(PegClerks.DOUBLES, 3);
        due("one less", x.untilJam(), 0);
    }

    private static void nothingElseIsDone() {
        about("untilJam: what if; nothing changes");
        PegClerks x = Checks.withDrum("0:0;1:0;9:01");
        x.set(PegClerks.LIFE, 1);
        x.step(1);
        String before = Checks.state(x, true);
        due("untilJam()", x.untilJam(), 8);
        due("untilJam() again", x.untilJam(), 8);
        Checks.sameState("nothing is different", Checks.state(x, true), before);
        due("undo()", x.undo(), 2);
    }

    // ---- promise 15

    private static void ifSteppedFrom1To500() {
        about("steps: 1 to 500");
        PegClerks x = Checks.withDrum("0:0;1:0;5:2");
        x.order(4);
        int[][] due1 = {{1, 0, 0, 0, 1}, {2, 0, 0, 0, 2}, {3, 0, 0, 0, 2}, {4, 0, 0, 1, 2}, {8, 1, 0, 1, 3},
            {12, 1, 1, 1, 3}, {16, 1, 2, 1, 3}};
        for (int[] brought : due1) {
            for (int what = 0; what <= 4; what++) {
                due("ifStepped(" + brought[0] + ", " + what + ")", x.ifStepped(brought[0], what), brought[what]);
            }
        }
        x.set(PegClerks.INK, 0);
        int[] due499 = {499, 31, 62, 31, 95};
        int[] due500 = {500, 31, 62, 32, 95};
        for (int what = 0; what <= 4; what++) {
            due("ifStepped(499, " + what + ")", x.ifStepped(499, what), due499[what]);
            due("ifStepped(500, " + what + ")", x.ifStepped(500, what), due500[what]);
        }
        due("no step is done by that", x.count(10), 0);
    }

    private static void ifSteppedUpToAJam() {
        about("Tells what steps would bring, up to a jam");
        PegClerks x = Checks.withDrum("0:0;7:01");
        for (int steps = 1; steps <= 10; steps++) {
            due("steps of " + steps, x.ifStepped(steps, 0), Math.min(steps, 7));
        }
        due("steps of 500", x.ifStepped(500, 0), 7);
        due("forms up to the jam", x.ifStepped(500, 1) + x.ifStepped(500, 2) + x.ifStepped(500, 3), 1);
        x.step(7);
        for (int what = 0; what <= 4; what++) {
            due("ahead of the jam, " + what, x.ifStepped(500, what), 0);
        }
        due("not jammed by that", x.count(5), 0);
        x.step(1);
        for (int what = 0; what <= 4; what++) {
            due("jammed, " + what, x.ifStepped(1, what), 0);
        }
        due("jams so far", x.count(14), 1);
    }

    private static void ifSteppedOfTheFormBeneath() {
        about("the form that lies there is among those that steps would bring");
        PegClerks x = Checks.withDrum("0:0;1:0");
        x.step(3);
        due("spoiled by one step more", x.ifStepped(1, 3), 1);
        due("no mark", x.ifStepped(1, 4), 0);
        x.set(PegClerks.FORM, 2);
        due("it has lain for longer than FORM", x.ifStepped(1, 3), 1);
        due("and then the next one", x.ifStepped(3, 1), 1);
        due("which needs FORM steps", x.ifStepped(2, 1), 0);
    }

    private static void ifSteppedWithoutWhatWasSoFar() {
        about("Tells what steps would bring: not what was so far");
        PegClerks x = Checks.withDrum("0:0;1:0;5:2");
        x.order(4);
        x.step(32);
        for (int what = 10; what <= 13; what++) {
            due("there was something so far, " + what, x.count(what) > 0 ? 1 : 0, 1);
        }
        int[] brought = {16, 1, 2, 1, 3};
        for (int what = 0; what <= 4; what++) {
            due("ifStepped(16, " + what + ")", x.ifStepped(16, what), brought[what]);
            due("ifStepped(1, " + what + ")", x.ifStepped(1, what), what == 0 || what == 4 ? 1 : 0);
        }
        due("bestOut()", x.bestOut(), NONE);
    }

    private static void ifSteppedBehindTheMostSteps() {
        about("ifStepped and untilJam name no TOO_MANY");
        PegClerks x = new PegClerks();
        for (int call = 0; call < 499; call++) {
            x.step(200);
        }
        x.step(199);
        due("ifStepped(500, 0)", x.ifStepped(500, 0), 500);
        due("ifStepped(500, 1)", x.ifStepped(500, 1), 125);
        due("untilJam()", x.untilJam(), NONE);
        x.peg(1, 0);
        x.peg(1, 1);
        due("untilJam() with a jam", x.untilJam(), 2);
    }

    private static void ifSteppedOutOfRange() {
        about("ifStepped: BAD_VALUE if an argument is out of range");
        PegClerks x = Checks.withDrum("0:01");
        for (int jammed = 0; jammed < 2; jammed++) {
            for (int steps : Checks.outside(1, 500)) {
                due("ifStepped(" + steps + ", 0)", x.ifStepped(steps, 0), BAD_VALUE);
                due("ifStepped(" + steps + ", 4)", x.ifStepped(steps, 4), BAD_VALUE);
                due("ifStepped(" + steps + ", 5)", x.ifStepped(steps, 5), BAD_VALUE);
            }
            for (int what : Checks.outside(0, 4)) {
                due("ifStepped(1, " + what + ")", x.ifStepped(1, what), BAD_VALUE);
                due("ifStepped(500, " + what + ")", x.ifStepped(500, what), BAD_VALUE);
            }
            x.step(1);
        }
    }

    // ---- promise 16

    private static void noPegIsBest() {
        about("bestOut: NONE if there is none");
        PegClerks x = new PegClerks();
        due("an empty drum", x.bestOut(), NONE);
        x.order(1);
        due("no form is right, and there is no peg", x.bestOut(), NONE);
        x.peg(0, 0);
        due("the only peg is the right one", x.bestOut(), NONE);
    }

    private static void moreThanWithIt() {
        about("the most forms are right in the next 64 steps, more than with it");
        PegClerks x = Checks.withDrum("0:0;1:1");
        x.order(4);
        due("none is right either way", x.bestOut(), NONE);
        x.order(1);
        due("the one that is too many", x.bestOut(), 7);
        x.order(2);
        due("the other one", x.bestOut(), 0);
        x.order(0);
        due("both are too many: one does not help", x.bestOut(), NONE);
        PegClerks same = Checks.withDrum("0:0;5:1");
        same.order(1);
        same.set(PegClerks.LIFE, 1);
        due("as many are right as with it", same.bestOut(), NONE);
        same.order(0);
        due("one more right is enough", same.bestOut(), 0);
    }

    private static void lowestRowLowestPlace() {
        about("of several that of the lowest row, of these of the lowest place");
        PegClerks x = Checks.withDrum("14:5;15:05");
        x.set(PegClerks.DOUBLES, 2);
        x.set(PegClerks.FORM, 1);
        x.order(32);
        due("only one that helps", x.bestOut(), 90);
        x.order(0);
        due("the only row that helps", x.bestOut(), 89);
        x.set(PegClerks.DOUBLES, 1);
        x.peg(14, 5);
        due("of two that end a jam the lowest place", x.bestOut(), 90);
        x.peg(15, 0);
        due("row 15, place 5", x.bestOut(), 95);
        x.peg(0, 5);
        due("row 0, place 5", x.bestOut(), 5);
        x.peg(0, 5);
        x.peg(0, 0);
        due("row 0, place 0: 0 is an answer", x.bestOut(), 0);
    }

    private static void next64Steps() {
        about("in the next 64 steps");
        due("one right form more with the 64th step", bestOutOfALateForm(0), 30);
        due("one right form more with the 65th step", bestOutOfALateForm(3), NONE);
    }

    /**
     * The peg in row 5 takes the ink that the one in row 15 needs in the fourth turn, and its own forms are wrong
     * anyway. The form of row 15 is done with the 64th step, or with the 65th if one has lain for 3 steps at first.
     */
    private static int bestOutOfALateForm(int lain) {
        PegClerks x = new PegClerks();
        x.step(16 - lain);
        x.newForm();
        if (lain > 0) {
            x.step(lain);
        }
        Checks.write(x, "5:0;6:1;7:2;15:0");
        x.read();
        x.order(1);
        x.set(PegClerks.INK, 7);
        due("it stands at", x.count(4), 0);
        due("the form has lain", x.count(9), lain);
        due("right with it", x.ifStepped(64, 1), 3);
        return x.bestOut();
    }

    private static void bestOutOfAJam() {
        about("the next steps end at a jam");
        PegClerks x = Checks.withDrum("4:01;9:01");
        due("a jam that goes, but no right form up to the next one", x.bestOut(), NONE);
        x.set(PegClerks.FORM, 2);
        due("a jam that goes, and a right form up to the next one", x.bestOut(), 24);
        x.peg(9, 0);
        x.peg(9, 1);
        due("the only jam", x.bestOut(), 24);
        x.order(1);
        due("the one that then is right", x.bestOut(), 25);
        x.peg(4, 2);
        due("three pegs: one less jams, too", x.bestOut(), NONE);
        due("jams so far", x.count(14), 0);
    }

    private static void bestOutWhenJammed() {
        about("bestOut of a jammed clerk: no step, no right form");
        PegClerks x = Checks.withDrum("0:01;5:0");
        due("ahead of the jam", x.bestOut(), 0);
        x.step(1);
        due("jammed", x.bestOut(), NONE);
        String before = Checks.state(x, true);
        x.bestOut();
        Checks.sameState("nothing is different", Checks.state(x, true), before);
        x.free();
        due("freed, with the jam a turn ahead", x.bestOut(), 0);
        x.peg(0, 0);
        due("without a jam", x.bestOut(), 1);
        x.peg(0, 1);
        due("the only peg", x.bestOut(), 30);
    }

    // ---- promise 17

    private static void bothWays(String what, PegClerks x, int stamps) {
        due(what + ", step by step", x.nextStamps(0), stamps);
        due(what + ", by the pegs", x.nextStamps(1), stamps);
    }

    private static void nextStampsBehind15() {
        about("from the row at which it stands (0 behind 15)");
        PegClerks x = Checks.withDrum("13:0;14:1;15:2;0:3;1:4;2:5");
        int[] stamps = {56, 48, 32, 0, 0, 0, 0, 0, 0, 0, 1, 3, 7, 15, 30, 60};
        for (int at = 0; at < 16; at++) {
            bothWays("at row " + at, x, stamps[at]);
            x.step(1);
        }
    }

    private static void nextStampsOfFormFrom1To8() {
        about("if the drum went on for FORM steps");
        PegClerks x = Checks.withDrum("0:0;2:1;3:2;5:3;7:4;8:5");
        int[] stamps = {0, 1, 1, 3, 7, 7, 15, 15, 31};
        for (int form = 1; form <= 8; form++) {
            x.set(PegClerks.FORM, form);
            bothWays("FORM " + form, x, stamps[form]);
        }
        PegClerks y = new PegClerks();
        bothWays("an empty drum", y, 0);
    }

    private static void nextStampsWithInkEnough() {
        about("with ink enough");
        PegClerks x = Checks.withDrum("0:0;1:0");
        x.set(PegClerks.INK, 5);
        x.step(80);
        due("no ink", x.stamp(0, 0), 0);
        bothWays("without ink", x, 1);
        due("no fall without a mark by that", x.stamp(0, 2), 0);
        x.set(PegClerks.LIFE, 1);
        bothWays("pegs that fall out when they stamp", x, 1);
        due("none fell out by that", x.count(16), 0);
    }

    private static void nextStampsOfANewForm() {
        about("a new form");
        PegClerks x = Checks.withDrum("0:0;2:1;5:2");
        x.step(2);
        due("the form that lies there has", x.count(7), 1);
        bothWays("the new one's FORM steps", x, 6);
        x.set(PegClerks.FORM, 1);
        bothWays("though the one that lies there lay for longer", x, 2);
        due("it lies there still", x.count(9), 2);
    }

    private static void nextStampsWithoutJams() {
        about("and no jams");
        PegClerks x = Checks.withDrum("0:01;1:345;2:012345");
        x.set(PegClerks.FORM, 2);
        bothWays("two rows that would jam", x, 59);
        x.step(1);
        bothWays("jammed", x, 59);
        due("jammed still", x.step(1), NOT_POSSIBLE);
        due("jams so far", x.count(14), 1);
        x.free();
        bothWays("freed", x, 63);
    }

    private static void neitherWay() {
        about("BAD_VALUE if way is neither 0 nor 1");
        PegClerks x = Checks.withDrum("0:0");
        for (int way : Checks.outside(0, 1)) {
            due("nextStamps(" + way + ")", x.nextStamps(way), BAD_VALUE);
        }
    }
}
