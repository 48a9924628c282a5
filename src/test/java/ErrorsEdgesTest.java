import java.util.function.ToIntFunction;

/** The sentences of the document's conventions, for each call that can be refused. */
public final class ErrorsEdgesTest {
    private static final int NO_SUCH = PegClerks.NO_SUCH;
    private static final int BAD_VALUE = PegClerks.BAD_VALUE;
    private static final int BAD_TEXT = PegClerks.BAD_TEXT;
    private static final int TOO_MANY = PegClerks.TOO_MANY;
    private static final int NOT_POSSIBLE = PegClerks.NOT_POSSIBLE;
    private static final int NONE = PegClerks.NONE;

    public static void main(String[] args) {
        theCodes();
        wrongChangesChangeNothing();
        wrongQuestionsChangeNothing();
        wrongTextsChangeNothing();
        wrongSlotsChangeNothing();
        refusedWhenJammed();
        refusedWithAFullPad();
        undoOfNothingChangesNothing();
        tooManyStepsChangeNothing();
        theFirstErrorThatApplies();
        noneOnlyIfNoErrorApplies();
        noneChangesNothing();
        everythingIsNumberedFrom0();
        setsAreBitMasks();
        anyArguments();
        Checks.end();
    }

    private static void about(String sentence) {
        Checks.about(sentence);
    }

    private static void due(String what, long got, long want) {
        Checks.due(what, got, want);
    }

    private static void theCodes() {
        about("NO_SUCH (-1), BAD_VALUE (-2), BAD_TEXT (-3), TOO_MANY (-4) and NOT_POSSIBLE (-5); NONE (-6)");
        due("NO_SUCH", NO_SUCH, -1);
        due("BAD_VALUE", BAD_VALUE, -2);
        due("BAD_TEXT", BAD_TEXT, -3);
        due("TOO_MANY", TOO_MANY, -4);
        due("NOT_POSSIBLE", NOT_POSSIBLE, -5);
        due("NONE", NONE, -6);
        due("FORM", PegClerks.FORM, 0);
        due("INK", PegClerks.INK, 1);
        due("LIFE", PegClerks.LIFE, 2);
        due("DOUBLES", PegClerks.DOUBLES, 3);
    }

    /** A clerk with a full history, in which each state has an order of its own, and with something in slot 1. */
    private static PegClerks used(String pad, boolean jammed) {
        PegClerks x = Checks.withDrum("0:0;1:0;2:5;3:01;15:5");
        x.step(jammed ? 4 : 3);
        x.order(33);
        x.save(1);
        for (int order = 11; order <= 17; order++) {
            x.order(order);
        }
        if (!pad.isEmpty()) {
            x.put(Checks.packed(pad));
        }
        return x;
    }

    /** The call is refused, and neither what can be asked, nor the history, nor the slots are different by it. */
    private static void refused(String call, PegClerks x, ToIntFunction<PegClerks> made, int error) {
        String before = Checks.state(x, true);
        due(call, made.applyAsInt(x), error);
        Checks.sameState(call + " changes nothing", Checks.state(x, true), before);
        due(call + " again", made.applyAsInt(x), error);
        for (int order = 16; order >= 11; order--) {
            x.undo();
            due("the history behind " + call, x.count(6), order);
        }
        due("no more history behind " + call, x.undo(), NOT_POSSIBLE);
        due("slot 0 behind " + call, x.restore(0), NOT_POSSIBLE);
        due("slot 1 behind " + call, x.restore(1), 6);
        due("what is in slot 1 behind " + call, x.count(6), 33);
    }

    private static void refusedBoth(String call, ToIntFunction<PegClerks> made, int error) {
        refused(call, used("3:", false), made, error);
        refused(call + " when jammed", used("", true), made, error);
    }

    private static void wrongChangesChangeNothing() {
        about("A call that returns an error changes nothing");
        int[] least = {1, 0, 0, 1};
        int[] most = {8, 9, 99, 4};
        for (int setting = 0; setting < 4; setting++) {
            for (int value : Checks.outside(least[setting], most[setting])) {
                int which = setting;
                refusedBoth("set(" + setting + ", " + value + ")", x -> x.set(which, value), BAD_VALUE);
            }
        }
        for (int off : Checks.outside(0, 3)) {
            refusedBoth("set(" + off + ", 1)", x -> x.set(off, 1), BAD_VALUE);
        }
        for (int off : Checks.outside(0, 15)) {
            refusedBoth("peg(" + off + ", 0)", x -> x.peg(off, 0), NO_SUCH);
        }
        for (int off : Checks.outside(0, 5)) {
            refusedBoth("peg(0, " + off + ")", x -> x.peg(0, off), NO_SUCH);
            refusedBoth("ink(" + off + ")", x -> x.ink(off), NO_SUCH);
        }
        for (int off : Checks.outside(0, 63)) {
            refusedBoth("order(" + off + ")", x -> x.order(off), BAD_VALUE);
        }
        for (int off : Checks.outside(1, 200)) {
            refusedBoth("step(" + off + ")", x -> x.step(off), BAD_VALUE);
        }
        refused("free()", used("", false), PegClerks::free, NOT_POSSIBLE);
    }

    private static void wrongQuestionsChangeNothing() {
        about("A call that returns an error changes nothing: a question");
        for (int off : Checks.outside(0, 15)) {
            refusedBoth("row(" + off + ", 0)", x -> x.row(off, 0), NO_SUCH);
            refusedBoth("stamped(" + off + ", 0)", x -> x.stamped(off, 0), NO_SUCH);
        }
        for (int off : Checks.outside(0, 3)) {
            refusedBoth("row(0, " + off + ")", x -> x.row(0, off), BAD_VALUE);
        }
        for (int off : Checks.outside(0, 5)) {
            refusedBoth("stamped(0, " + off + ")", x -> x.stamped(0, off), NO_SUCH);
            refusedBoth("stamp(" + off + ", 0)", x -> x.stamp(off, 0), NO_SUCH);
        }
        for (int off : Checks.outside(0, 4)) {
            refusedBoth("stamp(0, " + off + ")", x -> x.stamp(0, off), BAD_VALUE);
            refusedBoth("ifStepped(1, " + off + ")", x -> x.ifStepped(1, off), BAD_VALUE);
        }
        for (int off : Checks.outside(0, 19)) {
            refusedBoth("count(" + off + ")", x -> x.count(off), BAD_VALUE);
        }
        for (int off : Checks.outside(1, 500)) {
            refusedBoth("ifStepped(" + off + ", 0)", x -> x.ifStepped(off, 0), BAD_VALUE);
        }
        for (int off : Checks.outside(0, 1)) {
            refusedBoth("nextStamps(" + off + ")", x -> x.nextStamps(off), BAD_VALUE);
        }
    }

    private static void wrongTextsChangeNothing() {
        about("A call that returns an error changes nothing: texts");
        long[] wrong = {0, 32, 127, 255, 256, 0x313120, 0x310031, 0x80L << 56, -1, Long.MAX_VALUE, 0x3131313131313180L};
        for (long characters : wrong) {
            refusedBoth("put(" + characters + "L)", x -> x.put(characters), BAD_VALUE);
        }
        for (String text : new String[] {"", "1", "12", "3:0;", "3:0;16:", "3:00", "3:0;4:6", "3:1;x"}) {
            refused("read() of " + text, used(text, false), PegClerks::read, BAD_TEXT);
            refused("read() when jammed of " + text, used(text, true), PegClerks::read, BAD_TEXT);
        }
    }

    private static void wrongSlotsChangeNothing() {
        about("A call that returns an error changes nothing: slots");
        for (int off : Checks.outside(0, 1)) {
            refusedBoth("save(" + off + ")", x -> x.save(off), BAD_VALUE);
            refusedBoth("restore(" + off + ")", x -> x.restore(off), BAD_VALUE);
        }
        refusedBoth("restore(0)", x -> x.restore(0), NOT_POSSIBLE);
    }

    private static void refusedWhenJammed() {
        about("A call that returns an error changes nothing: a step of a jammed clerk");
        refused("step(1)", used("3:0", true), x -> x.step(1), NOT_POSSIBLE);
        refused("step(200)", used("3:0", true), x -> x.step(200), NOT_POSSIBLE);
    }

    private static void refusedWithAFullPad() {
        about("A call that returns an error changes nothing: a full pad");
        for (int free = 0; free <= 7; free++) {
            PegClerks x = used("", false);
            for (int length = 1; length <= 60 - free; length++) {
                x.put('!');
            }
            long characters = 0x3131313131313131L >>> 56 - 8 * free;
            refused("put of " + (free + 1) + " with room for " + free, x, y -> y.put(characters), TOO_MANY);
        }
    }

    private static void undoOfNothingChangesNothing() {
        about("A call that returns an error changes nothing: undo");
        PegClerks x = used("3:0", true);
        for (int left = 5; left >= 0; left--) {
            due("undo()", x.undo(), left);
        }
        String before = Checks.state(x, true);
        due("undo() of nothing", x.undo(), NOT_POSSIBLE);
        due("undo() of nothing again", x.undo(), NOT_POSSIBLE);
        Checks.sameState("undo() of nothing changes nothing", Checks.state(x, true), before);
        x.order(1);
        due("the history begins anew", x.undo(), 0);
        due("with this order", x.count(6), 11);
    }

    private static void tooManyStepsChangeNothing() {
        about("A call that returns an error changes nothing: too many steps");
        PegClerks x = new PegClerks();
        for (int call = 0; call < 499; call++) {
            x.step(200);
        }
        due("step(200)", x.step(200), TOO_MANY);
        due("steps so far", x.count(10), 99800);
        due("forms so far", x.count(11), 24950);
        due("where it stands", x.count(4), 8);
        due("undo()", x.undo(), 5);
        due("is that of the latest steps", x.count(10), 99600);
    }

    private static void theFirstErrorThatApplies() {
        about("the first one that applies is returned");
        PegClerks x = Checks.withDrum("0:01");
        x.step(1);
        for (int off : Checks.outside(1, 200)) {
            due("step(" + off + "): BAD_VALUE, NOT_POSSIBLE", x.step(off), BAD_VALUE);
        }
        due("row(16, 4): NO_SUCH, BAD_VALUE", x.row(16, 4), NO_SUCH);
        due("row(-1, -1): NO_SUCH, BAD_VALUE", x.row(-1, -1), NO_SUCH);
        due("stamp(6, 5): NO_SUCH, BAD_VALUE", x.stamp(6, 5), NO_SUCH);
        due("stamp(-1, -1): NO_SUCH, BAD_VALUE", x.stamp(-1, -1), NO_SUCH);
        due("restore(2): BAD_VALUE, NOT_POSSIBLE", x.restore(2), BAD_VALUE);
        due("restore(-1): BAD_VALUE, NOT_POSSIBLE", x.restore(-1), BAD_VALUE);
        for (int length = 1; length <= 60; length++) {
            x.put('!');
        }
        due("put(0): BAD_VALUE, TOO_MANY", x.put(0), BAD_VALUE);
        due("put(32): BAD_VALUE, TOO_MANY", x.put(32), BAD_VALUE);
        due("put(33): TOO_MANY", x.put(33), TOO_MANY);
    }

    private static void noneOnlyIfNoErrorApplies() {
        about("NONE is not an error; it is returned only if no error applies");
        PegClerks x = new PegClerks();
        due("stamped(15, 5)", x.stamped(15, 5), NONE);
        due("stamped(16, 5)", x.stamped(16, 5), NO_SUCH);
        due("stamped(15, 6)", x.stamped(15, 6), NO_SUCH);
        due("stamped(-1, 0)", x.stamped(-1, 0), NO_SUCH);
        due("stamped(0, -1)", x.stamped(0, -1), NO_SUCH);
        due("untilJam()", x.untilJam(), NONE);
        due("bestOut()", x.bestOut(), NONE);
        Checks.write(x, "0:");
        due("fault()", x.fault(), NONE);
    }

    private static void noneChangesNothing() {
        about("NONE: there is none");
        PegClerks x = Checks.withDrum("0:0");
        x.order(1);
        Checks.write(x, "0:");
        String before = Checks.state(x, true);
        due("stamped(15, 5)", x.stamped(15, 5), NONE);
        due("untilJam()", x.untilJam(), NONE);
        due("bestOut()", x.bestOut(), NONE);
        due("fault()", x.fault(), NONE);
        Checks.sameState("nothing is different", Checks.state(x, true), before);
        due("undo()", x.undo(), 1);
    }

    private static void everythingIsNumberedFrom0() {
        about("Everything is numbered from 0");
        PegClerks x = new PegClerks();
        due("setting 0", x.set(0, 4), 4);
        due("row 0, place 0", x.peg(0, 0), 1);
        due("stamp 0", x.ink(0), 49);
        due("what 0 of a row", x.row(0, 0), 1);
        due("what 0 of a stamp", x.stamp(0, 0), 99);
        due("what 0 of the numbers", x.count(0), 4);
        due("what 0 of steps", x.ifStepped(1, 0), 1);
        due("way 0", x.nextStamps(0), 1);
        due("slot 0", x.save(0), 1);
        Checks.write(x, "x");
        due("the character 0", x.fault(), 0);
    }

    private static void setsAreBitMasks() {
        about("Sets are bit masks");
        for (int stamp = 0; stamp < 6; stamp++) {
            PegClerks x = Checks.withDrum("0:" + stamp);
            due("row(0, 0)", x.row(0, 0), 1 << stamp);
            due("nextStamps(0)", x.nextStamps(0), 1 << stamp);
            due("nextStamps(1)", x.nextStamps(1), 1 << stamp);
            x.order(1 << stamp);
            x.step(1);
            due("the stamps of the form", x.count(7), 1 << stamp);
            x.step(3);
            due("those of the order", x.count(11), 1);
            x.step(13);
            due("newForm()", x.newForm(), 1 << stamp);
        }
    }

    /** No call may throw, whatever it is given; what it answers is looked at elsewhere. */
    private static void anyArguments() {
        about("a call for any arguments answers");
        int[] any = {Integer.MIN_VALUE, Integer.MIN_VALUE + 1, -65536, -32, -7, -1, 0, 1, 5, 6, 15, 16, 31, 32, 63, 64,
            65536, 1 << 30, Integer.MAX_VALUE - 1, Integer.MAX_VALUE};
        for (int one : any) {
            PegClerks x = used("3:0", false);
            int answers = 0;
            for (int two : any) {
                answers += answered(x.set(one, two)) + answered(x.peg(one, two)) + answered(x.row(one, two))
                    + answered(x.stamped(one, two)) + answered(x.stamp(one, two)) + answered(x.ifStepped(one, two));
            }
            answers += answered(x.order(one)) + answered(x.ink(one)) + answered(x.step(one)) + answered(x.count(one))
                + answered(x.nextStamps(one)) + answered(x.put(one)) + answered(x.put((long) one << 32 | 49))
                + answered(x.save(one)) + answered(x.restore(one));
            due("calls with " + one, answers, 6 * any.length + 9);
        }
    }

    private static int answered(int answer) {
        return answer >= NONE ? 1 : 0;
    }
}
