/** One method for each promise of the document: ordinary inputs, the edges, and wrong inputs. */
public final class PromisesTest {
    private static final int NO_SUCH = PegClerks.NO_SUCH;
    private static final int BAD_VALUE = PegClerks.BAD_VALUE;
    private static final int BAD_TEXT = PegClerks.BAD_TEXT;
    private static final int TOO_MANY = PegClerks.TOO_MANY;
    private static final int NOT_POSSIBLE = PegClerks.NOT_POSSIBLE;
    private static final int NONE = PegClerks.NONE;
    private static final int[] OFF = {Integer.MIN_VALUE, -6, -1, Integer.MAX_VALUE};

    public static void main(String[] args) {
        newObject();
        set();
        peg();
        order();
        ink();
        step();
        stepsOfForms();
        stepsAndInk();
        stepsAndLife();
        stepsAtTheirLimit();
        free();
        newForm();
        read();
        row();
        stamped();
        stamp();
        count();
        untilJam();
        ifStepped();
        bestOut();
        nextStamps();
        put();
        wipe();
        fault();
        undo();
        formsComeBack(true);
        formsComeBack(false);
        save();
        restore();
        errorsChangeNothing();
        questionsChangeNothing();
        Checks.end();
    }

    private static void due(String what, long got, long want) {
        Checks.due(what, got, want);
    }

    // Promise 1
    private static void newObject() {
        PegClerks x = new PegClerks();
        int[] counts = {4, 1, 0, 1, 0, 0, 0, 0, 0, 0, 0, 0, 0, 0, 0, 0, 0, 0, 0, 0};
        for (int what = 0; what < counts.length; what++) {
            due("1: count(" + what + ")", x.count(what), counts[what]);
        }
        for (int row = 0; row < 16; row++) {
            due("1: row(" + row + ", 0)", x.row(row, 0), 0);
            for (int place = 0; place < 6; place++) {
                due("1: stamped(" + row + ", " + place + ")", x.stamped(row, place), NONE);
            }
        }
        for (int stamp = 0; stamp < 6; stamp++) {
            for (int what = 0; what < 5; what++) {
                due("1: stamp(" + stamp + ", " + what + ")", x.stamp(stamp, what), what == 0 ? 50 : 0);
            }
        }
        due("1: fault()", x.fault(), 0);
        due("1: restore(0)", x.restore(0), NOT_POSSIBLE);
        due("1: restore(1)", x.restore(1), NOT_POSSIBLE);
        due("1: undo()", x.undo(), NOT_POSSIBLE);
        PegClerks other = new PegClerks();
        x.peg(0, 0);
        x.set(0, 1);
        due("1: another clerk has its own drum", other.count(15), 0);
        due("1: another clerk has its own settings", other.count(0), 4);
    }

    // Promise 2
    private static void set() {
        int[] first = {4, 1, 0, 1};
        int[] least = {1, 0, 0, 1};
        int[] most = {8, 9, 99, 4};
        for (int setting = 0; setting < 4; setting++) {
            PegClerks x = new PegClerks();
            String name = "2: set(" + setting + ", ";
            due(name + "least)", x.set(setting, least[setting]), first[setting]);
            due(name + "most)", x.set(setting, most[setting]), least[setting]);
            due(name + "most) again", x.set(setting, most[setting]), most[setting]);
            due(name + "below)", x.set(setting, least[setting] - 1), BAD_VALUE);
            due(name + "above)", x.set(setting, most[setting] + 1), BAD_VALUE);
            due(name + "far below)", x.set(setting, Integer.MIN_VALUE), BAD_VALUE);
            due(name + "far above)", x.set(setting, Integer.MAX_VALUE), BAD_VALUE);
            for (int what = 0; what < 4; what++) {
                due(name + "..) and count " + what, x.count(what), what == setting ? most[what] : first[what]);
            }
            due(name + "..): changes", x.count(19), 3);
        }
        PegClerks x = new PegClerks();
        due("2: set(4, 1)", x.set(4, 1), BAD_VALUE);
        for (int off : OFF) {
            due("2: set(" + off + ", 1)", x.set(off, 1), BAD_VALUE);
        }
        due("2: no change", x.count(19), 0);
    }

    // Promise 3
    private static void peg() {
        PegClerks x = new PegClerks();
        due("3: peg(15, 5)", x.peg(15, 5), 1);
        due("3: peg(15, 0)", x.peg(15, 0), 2);
        due("3: peg(0, 0)", x.peg(0, 0), 1);
        due("3: row 15", x.row(15, 0), 33);
        due("3: row 0", x.row(0, 0), 1);
        due("3: peg(15, 5) out", x.peg(15, 5), 1);
        due("3: peg(15, 0) out", x.peg(15, 0), 0);
        due("3: row 15 then", x.row(15, 0), 0);
        due("3: changes", x.count(19), 5);
        due("3: taken out is not fallen out", x.count(16), 0);
        due("3: peg(16, 0)", x.peg(16, 0), NO_SUCH);
        due("3: peg(0, 6)", x.peg(0, 6), NO_SUCH);
        for (int off : OFF) {
            due("3: peg(" + off + ", 0)", x.peg(off, 0), NO_SUCH);
            due("3: peg(0, " + off + ")", x.peg(0, off), NO_SUCH);
        }
        due("3: changes still", x.count(19), 5);
        x.peg(0, 3);
        x.set(3, 4);
        x.step(16);
        due("3: stamped", x.stamped(0, 3), 1);
        x.peg(0, 3);
        due("3: stamped, taken out", x.stamped(0, 3), NONE);
        x.peg(0, 3);
        due("3: stamped, put in anew", x.stamped(0, 3), 0);
        due("3: its neighbour", x.stamped(0, 0), 1);
    }

    // Promise 4
    private static void order() {
        PegClerks x = new PegClerks();
        due("4: order(63)", x.order(63), 0);
        due("4: order(0)", x.order(0), 63);
        due("4: order(5)", x.order(5), 0);
        due("4: order(5) again", x.order(5), 5);
        due("4: changes", x.count(19), 4);
        due("4: order(64)", x.order(64), BAD_VALUE);
        for (int off : OFF) {
            due("4: order(" + off + ")", x.order(off), BAD_VALUE);
        }
        due("4: order", x.count(6), 5);
        due("4: changes still", x.count(19), 4);
    }

    // Promise 5
    private static void ink() {
        PegClerks x = Checks.withDrum("0:5");
        x.set(1, 9);
        x.step(1);
        due("5: ink(5)", x.ink(5), 58);
        due("5: ink then", x.stamp(5, 0), 99);
        due("5: ink(5) again", x.ink(5), 0);
        due("5: changes", x.count(19), 5);
        due("5: the others' ink", x.stamp(4, 0), 50);
        due("5: ink(0)", x.ink(0), 49);
        due("5: ink(6)", x.ink(6), NO_SUCH);
        for (int off : OFF) {
            due("5: ink(" + off + ")", x.ink(off), NO_SUCH);
        }
        due("5: changes still", x.count(19), 6);
    }

    // Promise 6
    private static void step() {
        PegClerks x = Checks.withDrum("0:0;2:12;3:3");
        due("6: step(0)", x.step(0), BAD_VALUE);
        due("6: step(201)", x.step(201), BAD_VALUE);
        for (int off : OFF) {
            due("6: step(" + off + ")", x.step(off), BAD_VALUE);
        }
        due("6: step(2) ahead of a jam", x.step(2), 2);
        due("6: not jammed yet", x.count(5), 0);
        due("6: no jam so far", x.count(14), 0);
        due("6: step(1) that jams", x.step(1), 0);
        due("6: jammed", x.count(5), 1);
        due("6: jams", x.count(14), 1);
        due("6: the drum stands", x.count(4), 2);
        due("6: steps so far", x.count(10), 2);
        due("6: the form has lain", x.count(9), 2);
        due("6: no stamp of the jam", x.count(7), 1);
        due("6: no ink of the jam", x.stamp(1, 0), 50);
        due("6: no stamping of the jam", x.stamped(2, 1), 0);
        due("6: a jam is a change", x.count(19), 3);
        due("6: step(1) when jammed", x.step(1), NOT_POSSIBLE);
        due("6: step(0) when jammed", x.step(0), BAD_VALUE);
        due("6: jams only once", x.count(14), 1);
        x.peg(2, 1);
        due("6: jammed without the doubles, too", x.step(1), NOT_POSSIBLE);
        x.free();
        due("6: step(200)", x.step(200), 200);
        due("6: round and round", x.count(4), (3 + 200) % 16);
        for (int doubles = 1; doubles <= 4; doubles++) {
            PegClerks y = Checks.withDrum("0:" + "012345".substring(0, doubles) + ";1:" + "012345".substring(0, doubles + 1));
            y.set(3, doubles);
            due("6: step(9) with doubles " + doubles, y.step(9), 1);
        }
    }

    private static void stepsOfForms() {
        PegClerks x = Checks.withDrum("0:0;1:1;2:2;4:0;5:0;6:1;8:0;12:3;14:0;15:0");
        x.order(7);
        due("6: step(3)", x.step(3), 3);
        due("6: the form has", x.count(7), 7);
        due("6: the form has lain", x.count(9), 3);
        x.step(1);
        due("6: right", x.count(11), 1);
        due("6: the next form has none", x.count(7), 0);
        due("6: the next form has lain", x.count(9), 0);
        x.step(2);
        due("6: spoiled already", x.count(8), 1);
        due("6: and has it", x.count(7), 1);
        due("6: a spoiling stamp takes ink", x.stamp(0, 0), 47);
        due("6: a spoiling stamp marks", x.stamp(0, 1), 3);
        due("6: it spoiled once", x.stamp(0, 4), 1);
        x.step(2);
        due("6: spoiled", x.count(13), 1);
        due("6: the next one is not", x.count(8), 0);
        x.step(4);
        due("6: wrong", x.count(12), 1);
        x.order(9);
        due("6: order changes", x.step(4), 4);
        due("6: spoiled, though the stamps are those of the order", x.count(13), 2);
        due("6: right still", x.count(11), 1);
        due("6: wrong still", x.count(12), 1);

        PegClerks y = new PegClerks();
        y.set(0, 8);
        y.step(5);
        y.set(0, 3);
        due("6: the form lies until the next step", y.count(9), 5);
        y.step(1);
        due("6: right, as FORM is then", y.count(11), 1);
        y.step(2);
        y.set(0, 4);
        y.step(1);
        due("6: not done, as FORM is then", y.count(11), 1);
        y.set(0, 1);
        y.step(5);
        due("6: a form each step", y.count(11), 6);

        PegClerks twice = Checks.withDrum("0:0;1:0;2:0");
        twice.step(3);
        due("6: each time that it had it already", twice.stamp(0, 4), 2);
        due("6: but one form", twice.step(1) + twice.count(13), 2);
    }

    private static void stepsAndInk() {
        PegClerks x = Checks.withDrum("0:0;1:0");
        x.set(1, 9);
        x.set(0, 2);
        x.order(1);
        x.step(80);
        due("6: five marks of nine", x.stamp(0, 1), 5);
        due("6: ink left", x.stamp(0, 0), 5);
        due("6: without a mark", x.stamp(0, 2), 5);
        due("6: pegs stamp without a mark, too", x.stamped(1, 0), 5);
        due("6: it had it already when the ink ran out, too", x.stamp(0, 4), 3);
        due("6: forms without a mark are not spoiled", x.count(13), 3);
        due("6: but wrong", x.count(12), 37);
        x.set(1, 5);
        x.step(16);
        due("6: just enough ink", x.stamp(0, 0), 0);
        due("6: the dry one spoils what has the stamp", x.count(13), 4);
        due("6: it had it already", x.stamp(0, 4), 4);
        x.set(1, 0);
        x.step(16);
        due("6: no ink needed", x.stamp(0, 1), 8);
        due("6: no ink taken", x.stamp(0, 0), 0);
        x.set(1, 1);
        x.step(16);
        due("6: dry", x.stamp(0, 2), 8);
        due("6: dry forms have nothing", x.count(13), 5);
    }

    private static void stepsAndLife() {
        PegClerks x = Checks.withDrum("0:0;1:1;2:23");
        x.set(3, 2);
        x.set(2, 2);
        x.step(16);
        due("6: stamped once", x.stamped(0, 0), 1);
        x.step(1);
        due("6: falls out", x.stamped(0, 0), NONE);
        due("6: fallen out", x.count(16), 1);
        due("6: pegs left", x.count(15), 3);
        due("6: it marked when it fell", x.stamp(0, 1), 2);
        x.step(15);
        due("6: all fall out", x.count(15), 0);
        due("6: all fallen", x.count(16), 4);
        x.step(16);
        due("6: no marks without pegs", x.count(17), 8);
        PegClerks y = Checks.withDrum("0:0");
        y.set(0, 1);
        y.step(100);
        due("6: no life, no fall", y.stamped(0, 0), 7);
        y.set(2, 3);
        due("6: falls only when it stamps", y.stamped(0, 0), 7);
        y.step(12);
        due("6: not yet", y.stamped(0, 0), 7);
        y.step(1);
        due("6: more than LIFE, too", y.stamped(0, 0), NONE);
        y.peg(0, 0);
        due("6: anew after a fall", y.stamped(0, 0), 0);
        PegClerks one = Checks.withDrum("0:0");
        one.set(2, 1);
        one.set(1, 9);
        one.set(0, 1);
        one.order(1);
        one.step(17);
        due("6: a life of one", one.count(11), 1);
        PegClerks dry = Checks.withDrum("0:0");
        dry.set(1, 9);
        dry.set(2, 6);
        dry.step(96);
        due("6: falls out without a mark, too", dry.count(16), 1);
        due("6: five marks", dry.count(17), 5);
    }

    private static void stepsAtTheirLimit() {
        PegClerks x = new PegClerks();
        for (int call = 0; call < 499; call++) {
            x.step(200);
        }
        due("6: steps so far", x.count(10), 99800);
        due("6: step(200) beyond", x.step(200), TOO_MANY);
        due("6: nothing is done", x.count(10), 99800);
        due("6: step(199)", x.step(199), 199);
        due("6: step(1) beyond", x.step(1), TOO_MANY);
        due("6: step(201) beyond", x.step(201), BAD_VALUE);
        due("6: all", x.count(10), 99999);
        due("6: looking on is possible", x.ifStepped(500, 0), 500);
    }

    // Promise 7
    private static void free() {
        PegClerks x = Checks.withDrum("15:013;14:2");
        due("7: free() of a clerk that is not jammed", x.free(), NOT_POSSIBLE);
        due("7: no change", x.count(19), 1);
        due("7: steps", x.step(20), 15);
        due("7: free()", x.free(), 15);
        due("7: the drum goes on behind 15", x.count(4), 0);
        due("7: not jammed", x.count(5), 0);
        due("7: no stamp", x.count(7), 4);
        due("7: no step", x.count(10), 15);
        due("7: no step of the form", x.count(9), 3);
        due("7: jams so far", x.count(14), 1);
        due("7: a change", x.count(19), 3);
        due("7: free() again", x.free(), NOT_POSSIBLE);
        due("7: goes on", x.step(20), 15);
        due("7: jams again", x.count(14), 2);
    }

    // Promise 8
    private static void newForm() {
        PegClerks x = Checks.withDrum("0:0;1:0;2:5");
        due("8: newForm() of an empty one", x.newForm(), 0);
        x.step(3);
        due("8: spoiled", x.count(8), 1);
        due("8: newForm()", x.newForm(), 33);
        due("8: its stamps", x.count(7), 0);
        due("8: not spoiled", x.count(8), 0);
        due("8: lain for no step", x.count(9), 0);
        due("8: not counted as right", x.count(11), 0);
        due("8: not counted as wrong", x.count(12), 0);
        due("8: not counted as spoiled", x.count(13), 0);
        due("8: steps so far", x.count(10), 3);
        due("8: the drum stands", x.count(4), 3);
        due("8: changes", x.count(19), 4);
        x.step(3);
        due("8: the new one lies for four", x.count(9), 3);
        x.peg(6, 0);
        x.peg(6, 1);
        x.step(1);
        due("8: newForm() when jammed", x.newForm(), 0);
        due("8: jammed still", x.count(5), 1);
    }

    // Promise 9
    private static void read() {
        PegClerks x = new PegClerks();
        due("9: read() of nothing", x.read(), BAD_TEXT);
        Checks.write(x, "3:015;9:;0:2");
        due("9: read()", x.read(), 4);
        due("9: the pad is empty", x.count(18), 0);
        due("9: row 3", x.row(3, 0), 35);
        due("9: row 0", x.row(0, 0), 4);
        due("9: row 9", x.row(9, 0), 0);
        due("9: a change", x.count(19), 1);
        x.set(3, 4);
        x.step(16);
        Checks.write(x, "3:124;12:0");
        due("9: read() of more", x.read(), 5);
        due("9: just these", x.row(3, 0), 22);
        due("9: what was there stays as it is", x.stamped(3, 1), 1);
        due("9: what is new", x.stamped(3, 2), 0);
        due("9: what is out", x.stamped(3, 0), NONE);
        due("9: rows that are not told", x.row(0, 0), 4);
        due("9: rows that are not told stay as they are", x.stamped(0, 2), 1);
        due("9: out is not fallen out", x.count(16), 0);
        Checks.write(x, "3:;3:1;0:02;0:2");
        due("9: read() of rows told twice", x.read(), 3);
        due("9: out and in anew", x.stamped(3, 1), 0);
        due("9: in all the time", x.stamped(0, 2), 1);
        due("9: in and out", x.stamped(0, 0), NONE);
        Checks.write(x, "3:0;");
        due("9: read() of what ends too early", x.read(), BAD_TEXT);
        due("9: the pad stays", x.count(18), 4);
        due("9: the drum stays", x.row(3, 0), 2);
        x.wipe();
        Checks.write(x, "15:012345;10:5;0:");
        due("9: read() of the last rows", x.read(), 9);
        due("9: row 15", x.row(15, 0), 63);
        due("9: row 10", x.row(10, 0), 32);
    }

    // Promise 10
    private static void row() {
        PegClerks x = Checks.withDrum("0:0;5:135;15:05");
        due("10: row(5, 0)", x.row(5, 0), 42);
        due("10: row(5, 1)", x.row(5, 1), 3);
        due("10: row(5, 2)", x.row(5, 2), 1);
        due("10: row(5, 3)", x.row(5, 3), 5);
        due("10: row(0, 2)", x.row(0, 2), 0);
        due("10: row(1, 1)", x.row(1, 1), 0);
        due("10: row(0, 3)", x.row(0, 3), 0);
        due("10: row(15, 3)", x.row(15, 3), 15);
        x.set(3, 3);
        due("10: row(5, 2) with DOUBLES 3", x.row(5, 2), 0);
        x.step(7);
        due("10: row(7, 3)", x.row(7, 3), 0);
        due("10: row(6, 3)", x.row(6, 3), 15);
        due("10: row(15, 3) then", x.row(15, 3), 8);
        due("10: row(0, 3) then", x.row(0, 3), 9);
        due("10: row(0, 4)", x.row(0, 4), BAD_VALUE);
        due("10: row(16, 4)", x.row(16, 4), NO_SUCH);
        for (int off : OFF) {
            due("10: row(" + off + ", 0)", x.row(off, 0), NO_SUCH);
            due("10: row(0, " + off + ")", x.row(0, off), BAD_VALUE);
            due("10: row(" + off + ", " + off + ")", x.row(off, off), NO_SUCH);
        }
    }

    // Promise 11
    private static void stamped() {
        PegClerks x = Checks.withDrum("0:1;15:5");
        due("11: stamped(15, 5)", x.stamped(15, 5), 0);
        due("11: stamped(15, 4)", x.stamped(15, 4), NONE);
        x.step(17);
        due("11: stamped(0, 1)", x.stamped(0, 1), 2);
        due("11: stamped(15, 5) then", x.stamped(15, 5), 1);
        due("11: stamped(16, 0)", x.stamped(16, 0), NO_SUCH);
        due("11: stamped(0, 6)", x.stamped(0, 6), NO_SUCH);
        for (int off : OFF) {
            due("11: stamped(" + off + ", 0)", x.stamped(off, 0), NO_SUCH);
            due("11: stamped(0, " + off + ")", x.stamped(0, off), NO_SUCH);
        }
    }

    // Promise 12
    private static void stamp() {
        PegClerks x = Checks.withDrum("0:5;1:5;2:5;9:0");
        x.set(1, 9);
        x.step(32);
        due("12: stamp(5, 0)", x.stamp(5, 0), 5);
        due("12: stamp(5, 1)", x.stamp(5, 1), 5);
        due("12: stamp(5, 2)", x.stamp(5, 2), 1);
        due("12: stamp(5, 3)", x.stamp(5, 3), 3);
        due("12: stamp(5, 4)", x.stamp(5, 4), 4);
        due("12: stamp(0, 1)", x.stamp(0, 1), 2);
        due("12: stamp(0, 3)", x.stamp(0, 3), 1);
        due("12: stamp(1, 3)", x.stamp(1, 3), 0);
        due("12: stamp(0, 5)", x.stamp(0, 5), BAD_VALUE);
        due("12: stamp(6, 5)", x.stamp(6, 5), NO_SUCH);
        for (int off : OFF) {
            due("12: stamp(" + off + ", 0)", x.stamp(off, 0), NO_SUCH);
            due("12: stamp(0, " + off + ")", x.stamp(0, off), BAD_VALUE);
        }
    }

    // Promise 13
    private static void count() {
        PegClerks x = Checks.withDrum("0:0;1:1;2:1;4:01;6:45");
        x.set(0, 2);
        x.set(1, 3);
        x.set(2, 9);
        x.set(3, 2);
        x.order(3);
        x.step(5);
        Checks.write(x, "12:");
        int[] counts = {2, 3, 9, 2, 5, 0, 3, 3, 0, 1, 5, 1, 1, 0, 0, 7, 0, 5, 3, 6};
        for (int what = 0; what < counts.length; what++) {
            due("13: count(" + what + ")", x.count(what), counts[what]);
        }
        x.set(3, 1);
        x.set(2, 1);
        x.step(16);
        int[] then = {2, 3, 1, 1, 6, 1, 3, 0, 0, 0, 6, 2, 1, 0, 1, 7, 0, 5, 3, 6};
        for (int what = 0; what < then.length; what++) {
            due("13: count(" + what + ") then", x.count(what), then[what]);
        }
        x.free();
        x.peg(4, 1);
        x.step(16);
        due("13: count(16)", x.count(16), 4);
        due("13: count(17)", x.count(17), 9);
        due("13: count(20)", x.count(20), BAD_VALUE);
        for (int off : OFF) {
            due("13: count(" + off + ")", x.count(off), BAD_VALUE);
        }
    }

    // Promise 14
    private static void untilJam() {
        PegClerks x = new PegClerks();
        due("14: untilJam() of an empty drum", x.untilJam(), NONE);
        x.peg(3, 0);
        x.peg(3, 1);
        due("14: untilJam()", x.untilJam(), 3);
        x.step(3);
        due("14: the next one jams", x.untilJam(), 0);
        due("14: not jammed", x.count(5), 0);
        x.step(1);
        due("14: jammed", x.untilJam(), 0);
        x.peg(3, 0);
        due("14: jammed without the doubles, too", x.untilJam(), 0);
        x.free();
        due("14: freed", x.untilJam(), NONE);
        x.peg(3, 0);
        due("14: nearly a turn", x.untilJam(), 15);
        x.set(3, 2);
        due("14: with DOUBLES 2", x.untilJam(), NONE);
        x.peg(3, 5);
        x.set(2, 1);
        due("14: LIFE does not help what never stamps", x.untilJam(), 15);
    }

    // Promise 15
    private static void ifStepped() {
        PegClerks x = Checks.withDrum("0:0;1:0;4:0;8:1;13:01");
        x.set(0, 2);
        x.order(1);
        x.step(16);
        x.free();
        due("15: where it stands", x.count(4), 14);
        int[][] brought = {{1, 1, 0, 1, 0, 0}, {2, 2, 0, 1, 0, 0}, {3, 3, 1, 1, 0, 1}, {7, 7, 3, 1, 0, 3},
            {11, 11, 3, 3, 0, 4}, {15, 15, 3, 5, 0, 4}, {500, 15, 3, 5, 0, 4}};
        for (int[] of : brought) {
            for (int what = 0; what < 5; what++) {
                due("15: ifStepped(" + of[0] + ", " + what + ")", x.ifStepped(of[0], what), of[what + 1]);
            }
        }
        due("15: ifStepped(0, 0)", x.ifStepped(0, 0), BAD_VALUE);
        due("15: ifStepped(501, 0)", x.ifStepped(501, 0), BAD_VALUE);
        due("15: ifStepped(1, 5)", x.ifStepped(1, 5), BAD_VALUE);
        for (int off : OFF) {
            due("15: ifStepped(" + off + ", 0)", x.ifStepped(off, 0), BAD_VALUE);
            due("15: ifStepped(1, " + off + ")", x.ifStepped(1, off), BAD_VALUE);
        }
        x.step(200);
        for (int what = 0; what < 5; what++) {
            due("15: when jammed, " + what, x.ifStepped(64, what), 0);
        }
        PegClerks y = new PegClerks();
        due("15: ifStepped(500, 0)", y.ifStepped(500, 0), 500);
        due("15: ifStepped(500, 1)", y.ifStepped(500, 1), 125);
        y.order(1);
        due("15: ifStepped(500, 2)", y.ifStepped(500, 2), 125);
        due("15: ifStepped(500, 1) then", y.ifStepped(500, 1), 0);
        PegClerks z = Checks.withDrum("0:0");
        z.set(1, 9);
        z.set(2, 7);
        due("15: ink runs out", z.ifStepped(500, 4), 5);
        z.ink(0);
        due("15: pegs fall out", z.ifStepped(500, 4), 7);
        due("15: no peg fell out", z.count(16), 0);
        PegClerks w = Checks.withDrum("0:0;1:0");
        due("15: spoiled ones", w.ifStepped(64, 3), 4);
    }

    // Promise 16
    private static void bestOut() {
        PegClerks x = new PegClerks();
        due("16: an empty drum", x.bestOut(), NONE);
        x.peg(7, 3);
        due("16: the only peg", x.bestOut(), 45);
        x.order(8);
        due("16: a peg that had best stay", x.bestOut(), NONE);
        x.order(0);
        x.peg(7, 4);
        due("16: a jam that goes is worth more", x.bestOut(), 45);
        x.peg(0, 5);
        due("16: of several the lowest place", x.bestOut(), 45);
        x.step(20);
        due("16: jammed", x.bestOut(), NONE);
        PegClerks y = Checks.withDrum("3:2;12:1");
        due("16: of several the lowest row", y.bestOut(), 20);
        y.set(2, 1);
        due("16: with LIFE 1, too", y.bestOut(), 20);
        y.set(0, 8);
        y.peg(3, 2);
        due("16: the last one", y.bestOut(), 73);
        due("16: nothing is taken out", y.count(15), 1);
        PegClerks z = Checks.withDrum("0:0;4:1;5:2;8:3;9:2");
        z.order(4);
        due("16: not the lowest, but the best of all", z.bestOut(), 25);
        z.peg(4, 1);
        due("16: the next best", z.bestOut(), 51);
        PegClerks late = Checks.withDrum("15:0");
        late.set(0, 8);
        late.set(2, 1);
        late.step(1);
        due("16: within 64 steps", late.bestOut(), 90);
        late.undo();
        late.set(0, 1);
        late.set(2, 0);
        late.order(1);
        due("16: the peg is the order's", late.bestOut(), NONE);
        PegClerks even = Checks.withDrum("0:0;1:0");
        even.set(0, 1);
        even.step(17);
        due("16: row 1 would be better only with the 65th step", even.bestOut(), 0);
        even.peg(0, 0);
        even.order(1);
        even.step(200);
        due("16: forms that were right so far do not matter", even.bestOut(), NONE);
    }

    // Promise 17
    private static void nextStamps() {
        PegClerks x = Checks.withDrum("0:0;1:012345;2:;3:0;4:1;14:4;15:5");
        for (int way = 0; way < 2; way++) {
            due("17: nextStamps of FORM 4 by " + way, x.nextStamps(way), 63);
        }
        x.peg(1, 3);
        x.set(0, 2);
        for (int way = 0; way < 2; way++) {
            due("17: nextStamps of FORM 2 by " + way, x.nextStamps(way), 55);
        }
        x.step(5);
        due("17: jammed", x.count(5), 1);
        for (int way = 0; way < 2; way++) {
            due("17: nextStamps when jammed by " + way, x.nextStamps(way), 55);
        }
        x.free();
        x.step(12);
        x.set(1, 9);
        for (int way = 0; way < 2; way++) {
            due("17: nextStamps behind row 15 by " + way, x.nextStamps(way), 48);
        }
        x.set(0, 8);
        x.set(2, 1);
        for (int way = 0; way < 2; way++) {
            due("17: nextStamps of FORM 8 by " + way, x.nextStamps(way), 55);
        }
        due("17: nextStamps(2)", x.nextStamps(2), BAD_VALUE);
        for (int off : OFF) {
            due("17: nextStamps(" + off + ")", x.nextStamps(off), BAD_VALUE);
        }
        PegClerks y = Checks.withDrum("0:0;4:1");
        y.set(1, 9);
        y.step(193);
        due("17: the ink is out", y.stamp(0, 0), 5);
        for (int way = 0; way < 2; way++) {
            due("17: one row short by " + way, y.nextStamps(way), 2);
        }
    }

    // Promise 18
    private static void put() {
        PegClerks x = new PegClerks();
        due("18: put of !", x.put(33), 1);
        due("18: put of ~", x.put(126), 2);
        due("18: put of eight", x.put(Checks.packed("12345678")), 10);
        due("18: put of code 32", x.put(32), BAD_VALUE);
        due("18: put of code 127", x.put(127), BAD_VALUE);
        due("18: put of code 128", x.put(128), BAD_VALUE);
        due("18: put of code 255", x.put(255), BAD_VALUE);
        due("18: put(0)", x.put(0), BAD_VALUE);
        due("18: put(-1)", x.put(-1), BAD_VALUE);
        due("18: put of the least", x.put(Long.MIN_VALUE), BAD_VALUE);
        due("18: put of the most", x.put(Long.MAX_VALUE), BAD_VALUE);
        due("18: a hole", x.put(0x31003131L), BAD_VALUE);
        due("18: a hole at the end", x.put(0x3100L), BAD_VALUE);
        due("18: a bit above a hole", x.put(0x0100000000000031L), BAD_VALUE);
        due("18: the highest bit above a hole", x.put(0x8000000000000031L), BAD_VALUE);
        due("18: a bad one above good ones", x.put(0x8031313131313131L), BAD_VALUE);
        due("18: a bad one between good ones", x.put(0x312031L), BAD_VALUE);
        due("18: the length then", x.count(18), 10);
        due("18: no change", x.count(19), 0);
        for (int more = 1; more <= 6; more++) {
            due("18: put of eight more", x.put(Checks.packed("12345678")), 10 + 8 * more);
        }
        due("18: three more", x.put(Checks.packed("123")), TOO_MANY);
        due("18: three more with a bad one", x.put(0x313120L), BAD_VALUE);
        due("18: one more", x.put(49), 59);
        due("18: two more", x.put(Checks.packed("12")), TOO_MANY);
        due("18: the last one", x.put(126), 60);
        due("18: none more", x.put(49), TOO_MANY);
        PegClerks y = new PegClerks();
        y.put(Checks.packed("12:05"));
        y.put(Checks.packed(";7"));
        y.put(Checks.packed(":1"));
        due("18: the order of the characters", y.read(), 3);
        due("18: row 12", y.row(12, 0), 33);
        due("18: row 7", y.row(7, 0), 2);
    }

    // Promise 19
    private static void wipe() {
        PegClerks x = new PegClerks();
        due("19: wipe() of nothing", x.wipe(), 0);
        Checks.write(x, "abc;!~56789");
        due("19: wipe()", x.wipe(), 11);
        due("19: wipe() again", x.wipe(), 0);
        due("19: length", x.count(18), 0);
        due("19: no change", x.count(19), 0);
        due("19: fault of nothing", x.fault(), 0);
        Checks.write(x, "1:1");
        due("19: the old text is gone", x.read(), 1);
    }

    // Promise 20
    private static void fault() {
        String[] right = {"0:", "9:", "10:", "15:", "1:", "1:0", "1:5", "1:012345", "0:;0:", "1:;15:5;1:05", "14:135;2:024;0:"};
        for (String text : right) {
            faultOf(text, NONE);
            for (int length = 0; length < text.length(); length++) {
                String start = text.substring(0, length);
                if (start.lastIndexOf(':') <= start.lastIndexOf(';')) {
                    faultOf(start, length);
                }
            }
        }
        faultOf("16:", 1);
        faultOf("19", 1);
        faultOf("20:", 1);
        faultOf("00:", 1);
        faultOf("01:", 1);
        faultOf("100:", 2);
        faultOf("155", 2);
        faultOf(":", 0);
        faultOf(";", 0);
        faultOf("/:", 0);
        faultOf("a", 0);
        faultOf("-1:", 0);
        faultOf("1;", 1);
        faultOf("1/", 1);
        faultOf("1::", 2);
        faultOf("1:6", 2);
        faultOf("1:/", 2);
        faultOf("1:00", 3);
        faultOf("1:55", 3);
        faultOf("1:021", 4);
        faultOf("1:0123456", 8);
        faultOf("1:0123455", 8);
        faultOf("1:;;", 3);
        faultOf("1:;:", 3);
        faultOf("1:0;", 4);
        faultOf("1:5;2", 5);
        faultOf("1:5;1", 5);
        faultOf("1:5;12", 6);
        faultOf("1:5;2:50", 7);
        faultOf("1:5;2:0!", 7);
        faultOf("1:5:", 3);
        faultOf("1:,2", 2);
        PegClerks x = new PegClerks();
        Checks.write(x, "0:;0:;0:;0:;0:;0:;0:;0:;0:;0:;0:;0:;0:;0:;0:;0:;0:;0:;0:;12:");
        due("20: a full pad", x.fault(), NONE);
        PegClerks y = new PegClerks();
        Checks.write(y, "0:;0:;0:;0:;0:;0:;0:;0:;0:;0:;0:;0:;0:;0:;0:;0:;0:;0:;0:;0:;");
        due("20: a full pad that ends too early", y.fault(), 60);
    }

    private static void faultOf(String text, int want) {
        PegClerks x = new PegClerks();
        Checks.write(x, text);
        due("20: fault of " + text, x.fault(), want);
        due("20: the length stays with " + text, x.count(18), text.length());
        due("20: read of " + text, x.read() == BAD_TEXT ? 1 : 0, want == NONE ? 0 : 1);
    }

    // Promise 21
    private static void undo() {
        PegClerks x = new PegClerks();
        for (int done = 0; done < 9; done++) {
            change(x, done);
            due("21: changes that can be undone", x.count(19), Math.min(done + 1, 6));
        }
        Checks.write(x, "12");
        for (int left = 5; left >= 0; left--) {
            due("21: undo()", x.undo(), left);
            Checks.sameState("21: the state with " + left + " left", Checks.state(x, false), stateBehind(left + 3));
        }
        due("21: undo() of nothing", x.undo(), NOT_POSSIBLE);
        due("21: the pad stays", x.count(18), 2);
        x.wipe();
        Checks.write(x, "15:5");
        x.read();
        due("21: undo() of a read", x.undo(), 0);
        due("21: gives no text back", x.count(18), 0);
        due("21: the pegs are out", x.row(15, 0), 0);
        x.order(x.count(6));
        due("21: the same order is a change", x.count(19), 1);
        x.ink(0);
        x.ink(0);
        x.set(0, 3);
        x.undo();
        due("21: undo and change again", x.count(19), 3);
        x.set(0, 5);
        x.undo();
        x.undo();
        x.undo();
        x.undo();
        due("21: all undone", x.undo(), NOT_POSSIBLE);
        PegClerks y = new PegClerks();
        y.peg(0, 0);
        y.save(0);
        y.peg(0, 1);
        y.undo();
        y.undo();
        due("21: the slots stay", y.restore(0), 1);
        due("21: undo() of a restore", y.undo(), 0);
        due("21: the drum is empty again", y.count(15), 0);
    }

    private static String stateBehind(int changes) {
        PegClerks x = new PegClerks();
        for (int done = 0; done < changes; done++) {
            change(x, done);
        }
        return Checks.state(x, false);
    }

    private static void change(PegClerks x, int which) {
        switch (which) {
            case 0: x.peg(2, 1); break;
            case 1: x.peg(2, 3); break;
            case 2: x.order(9); break;
            case 3: x.step(9); break;
            case 4: x.free(); break;
            case 5: x.set(2, 1); break;
            case 6: x.step(30); break;
            case 7: x.ink(1); break;
            default: x.newForm(); break;
        }
    }

    /** Each part of the form and of the stamps' numbers has to come back. */
    private static void formsComeBack(boolean byUndo) {
        PegClerks x = Checks.withDrum("0:0;1:0;2:12;3:0;4:0;5:4");
        x.set(3, 2);
        x.set(1, 9);
        x.set(0, 8);
        x.step(18);
        String before = Checks.state(x, false);
        due("21: spoiled", x.count(8), 1);
        x.save(1);
        x.step(3);
        due("21: dry falls more", x.stamp(0, 2), 3);
        due("21: spoilings more", x.stamp(0, 4), 6);
        x.newForm();
        if (byUndo) {
            x.undo();
            x.undo();
        } else {
            x.restore(1);
        }
        Checks.sameState("21, 23: back by " + (byUndo ? "undo" : "restore"), Checks.state(x, false), before);
    }

    // Promise 22
    private static void save() {
        PegClerks x = Checks.withDrum("0:0;1:1");
        due("22: save(0)", x.save(0), 2);
        due("22: no change", x.count(19), 1);
        x.peg(5, 5);
        due("22: save(1)", x.save(1), 3);
        x.peg(6, 5);
        due("22: restore(0)", x.restore(0), 2);
        due("22: restore(1)", x.restore(1), 3);
        x.peg(7, 5);
        due("22: save(1) over it", x.save(1), 4);
        x.peg(7, 5);
        due("22: restore(1) then", x.restore(1), 4);
        due("22: restore(0) still", x.restore(0), 2);
        due("22: save(2)", x.save(2), BAD_VALUE);
        for (int off : OFF) {
            due("22: save(" + off + ")", x.save(off), BAD_VALUE);
        }
    }

    // Promise 23
    private static void restore() {
        PegClerks x = Checks.withDrum("0:0;1:0;2:1;5:012;9:3");
        due("23: restore(2)", x.restore(2), BAD_VALUE);
        for (int off : OFF) {
            due("23: restore(" + off + ")", x.restore(off), BAD_VALUE);
        }
        due("23: restore(1) of nothing", x.restore(1), NOT_POSSIBLE);
        due("23: no change", x.count(19), 1);
        x.set(0, 5);
        x.set(1, 2);
        x.set(2, 1);
        x.order(33);
        x.step(50);
        x.save(1);
        String saved = Checks.state(x, false);
        x.free();
        x.set(0, 8);
        x.set(3, 3);
        x.ink(0);
        x.order(1);
        x.step(77);
        x.newForm();
        Checks.write(x, "7:");
        String before = Checks.state(x, false);
        due("23: restore(1)", x.restore(1), 4);
        Checks.sameState("23: all that was saved", Checks.state(x, false), saved);
        due("23: the pad stays", x.count(18), 2);
        due("23: a change", x.count(19), 6);
        x.free();
        x.peg(0, 0);
        due("23: the slot keeps it", x.restore(1), 4);
        Checks.sameState("23: all that was saved, again", Checks.state(x, false), saved);
        due("23: restore(0) of nothing still", x.restore(0), NOT_POSSIBLE);
        x.undo();
        x.undo();
        x.undo();
        due("23: undone", x.undo(), 2);
        Checks.sameState("23: as before it", Checks.state(x, false), before);
    }

    private static void errorsChangeNothing() {
        PegClerks x = Checks.withDrum("0:0;1:0;2:1;5:012;9:3");
        x.step(200);
        x.save(0);
        Checks.write(x, "1:");
        String before = Checks.state(x, true);
        x.set(0, 9);
        x.peg(0, 6);
        x.order(64);
        x.ink(6);
        x.step(1);
        x.step(0);
        x.row(16, 0);
        x.stamped(16, 0);
        x.stamp(6, 0);
        x.count(20);
        x.ifStepped(0, 0);
        x.nextStamps(2);
        x.put(0);
        x.save(2);
        x.restore(2);
        x.restore(1);
        Checks.sameState("errors when jammed", Checks.state(x, true), before);
        x.free();
        x.put(':');
        before = Checks.state(x, true);
        x.free();
        x.read();
        Checks.sameState("errors when free", Checks.state(x, true), before);
    }

    private static void questionsChangeNothing() {
        PegClerks x = Checks.withDrum("0:0;1:0;2:1;5:012;9:3");
        x.set(2, 3);
        x.step(3);
        Checks.write(x, "1:");
        String before = Checks.state(x, true);
        x.untilJam();
        x.ifStepped(500, 1);
        x.bestOut();
        x.nextStamps(0);
        x.nextStamps(1);
        x.fault();
        x.row(5, 2);
        x.save(0);
        Checks.sameState("questions", Checks.state(x, true), before);
        x.step(3);
        before = Checks.state(x, true);
        x.untilJam();
        x.ifStepped(500, 1);
        x.bestOut();
        Checks.sameState("questions when jammed", Checks.state(x, true), before);
    }
}
