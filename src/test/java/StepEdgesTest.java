/** The edges of the sentences on a step, and of promises 6 to 8: a method for each sentence. */
public final class StepEdgesTest {
    private static final int BAD_VALUE = PegClerks.BAD_VALUE;
    private static final int TOO_MANY = PegClerks.TOO_MANY;
    private static final int NOT_POSSIBLE = PegClerks.NOT_POSSIBLE;
    private static final int NONE = PegClerks.NONE;

    public static void main(String[] args) {
        jammedNoStep();
        moreThanDoubles();
        nothingElseIsDifferent();
        noPegNoStamp();
        everyStampOfTheRowFalls();
        hasItAlready();
        hasItAlreadyAndNoInk();
        lessInkThanInk();
        noInkNeeded();
        stampedOnceMore();
        lifeOfNone();
        lifeTimesOrMore();
        longestLife();
        lifeThatIsShorterThen();
        rowBehind15();
        formForFormSteps();
        formOrMoreAsFormIsThen();
        rightWrongOrSpoiled();
        nextFormWithoutStamps();
        putInAnew();
        stepsOutOfRange();
        untilTheClerkJams();
        stepWhenJammed();
        stepsSoFarAboveTheMost();
        jammedAheadOfTheMost();
        freeWhenNotJammed();
        freeBehind15();
        freeWithoutAStep();
        newFormOfNothing();
        newFormOfASpoiledOne();
        newFormForNoStep();
        newFormWhenJammed();
        Checks.end();
    }

    private static void about(String sentence) {
        Checks.about(sentence);
    }

    private static void due(String what, long got, long want) {
        Checks.due(what, got, want);
    }

    /** A drum whose one row, 0, has so many pegs, from place 0 on. */
    private static PegClerks withPegsInRow0(int pegs) {
        return Checks.withDrum("0:" + "012345".substring(0, pegs));
    }

    // ---- a step

    private static void jammedNoStep() {
        about("If the clerk is jammed, no step can be done");
        PegClerks x = withPegsInRow0(2);
        x.step(1);
        String jammed = Checks.state(x, true);
        due("step(1)", x.step(1), NOT_POSSIBLE);
        due("step(200)", x.step(200), NOT_POSSIBLE);
        Checks.sameState("nothing is different", Checks.state(x, true), jammed);
        x.set(PegClerks.DOUBLES, 4);
        due("step(1) with DOUBLES enough", x.step(1), NOT_POSSIBLE);
        x.peg(0, 0);
        x.peg(0, 1);
        due("step(1) without pegs", x.step(1), NOT_POSSIBLE);
        due("jams so far", x.count(14), 1);
    }

    private static void moreThanDoubles() {
        about("If more than DOUBLES pegs are in it, the clerk jams");
        for (int doubles = 1; doubles <= 4; doubles++) {
            for (int pegs = 0; pegs <= 6; pegs++) {
                PegClerks x = withPegsInRow0(pegs);
                x.set(PegClerks.DOUBLES, doubles);
                int jams = pegs > doubles ? 1 : 0;
                String of = " with " + pegs + " pegs and DOUBLES " + doubles;
                due("step(1)" + of, x.step(1), 1 - jams);
                due("jammed" + of, x.count(5), jams);
                due("jams" + of, x.count(14), jams);
                due("marks" + of, x.count(17), jams == 1 ? 0 : pegs);
                due("drum" + of, x.count(4), 1 - jams);
            }
        }
    }

    private static void nothingElseIsDifferent() {
        about("the clerk jams, with these pegs; nothing else is different");
        PegClerks x = Checks.withDrum("0:0;1:0;2:05");
        x.set(PegClerks.LIFE, 2);
        x.set(PegClerks.FORM, 3);
        x.order(33);
        x.step(2);
        String before = Checks.stateBut(x, 5, 14, 19);
        due("step(200) that jams at once", x.step(200), 0);
        Checks.sameState("but for jammed, jams and changes", Checks.stateBut(x, 5, 14, 19), before);
        due("jammed", x.count(5), 1);
        due("jams so far", x.count(14), 1);
        due("changes", x.count(19), 6);
    }

    private static void noPegNoStamp() {
        about("a row without pegs lets no stamp fall, and is a step");
        PegClerks x = Checks.withDrum("15:0");
        String before = Checks.stateBut(x, 4, 9, 10, 19);
        due("step(3)", x.step(3), 3);
        Checks.sameState("but for where it stands, how long the form lay, steps and changes",
            Checks.stateBut(x, 4, 9, 10, 19), before);
        due("where it stands", x.count(4), 3);
        due("how long the form lay", x.count(9), 3);
        due("steps", x.count(10), 3);
    }

    private static void everyStampOfTheRowFalls() {
        about("Otherwise each stamp that has a peg there falls");
        PegClerks x = Checks.withDrum("0:0135;1:024");
        x.set(PegClerks.DOUBLES, 4);
        x.step(1);
        int[] marks = {1, 1, 0, 1, 0, 1};
        for (int stamp = 0; stamp < 6; stamp++) {
            due("marks of " + stamp, x.stamp(stamp, 1), marks[stamp]);
            due("ink of " + stamp, x.stamp(stamp, 0), 50 - marks[stamp]);
            due("stamped of row 0", x.stamped(0, stamp), marks[stamp] == 1 ? 1 : NONE);
        }
        due("the form has", x.count(7), 43);
        due("it is not spoiled", x.count(8), 0);
        due("stamped of row 1", x.stamped(1, 0), 0);
    }

    private static void hasItAlready() {
        about("if the form has it already, the form is spoiled");
        PegClerks x = Checks.withDrum("0:0;1:1;2:0;3:0;4:0");
        x.step(2);
        due("not by another stamp", x.count(8), 0);
        due("no spoiling so far", x.stamp(0, 4), 0);
        x.step(1);
        due("spoiled", x.count(8), 1);
        due("spoilings", x.stamp(0, 4), 1);
        due("the form has it still", x.count(7), 3);
        due("it takes ink", x.stamp(0, 0), 48);
        due("it is a mark", x.stamp(0, 1), 2);
        x.step(1);
        due("spoilings of a spoiled form", x.stamp(0, 4), 2);
        due("one spoiled form", x.count(13), 1);
        x.step(1);
        due("the form before does not count", x.count(8), 0);
        due("spoilings then", x.stamp(0, 4), 2);
        due("spoilings of the other stamp", x.stamp(1, 4), 0);
    }

    private static void hasItAlreadyAndNoInk() {
        about("(whether it was so or not) if it has less ink than INK, it leaves no mark");
        PegClerks x = Checks.withDrum("0:0;1:0");
        x.set(PegClerks.FORM, 2);
        x.set(PegClerks.INK, 9);
        x.step(64);
        due("marks so far", x.stamp(0, 1), 5);
        due("without a mark so far", x.stamp(0, 2), 3);
        due("it had it already though there was no ink", x.stamp(0, 4), 3);
        due("spoiled forms", x.count(13), 3);
        due("ink that is left", x.stamp(0, 0), 5);
        due("stamped, with a mark or not", x.stamped(1, 0), 4);
        due("a form without a mark does not have it", x.step(1) + x.count(7), 1);
        due("so the next one does not spoil it", x.step(1) + x.stamp(0, 4), 4);
    }

    private static void lessInkThanInk() {
        about("if it has less ink than INK, it leaves no mark; otherwise its ink becomes INK less");
        for (int ink = 1; ink <= 9; ink++) {
            PegClerks x = Checks.withDrum("0:2");
            x.set(PegClerks.INK, ink);
            for (int marks = 1; marks <= 50 / ink; marks++) {
                x.step(16);
            }
            String of = " with INK " + ink;
            due("ink" + of, x.stamp(2, 0), 50 % ink);
            due("marks" + of, x.stamp(2, 1), 50 / ink);
            due("none without a mark" + of, x.stamp(2, 2), 0);
            x.step(1);
            due("a mark too few" + of, x.stamp(2, 1), 50 / ink);
            due("the form does not have it" + of, x.count(7), 0);
            due("one without a mark" + of, x.stamp(2, 2), 1);
            due("ink stays" + of, x.stamp(2, 0), 50 % ink);
            if (50 % ink > 0) {
                x.set(PegClerks.INK, 50 % ink);
                x.step(16);
                due("just enough ink" + of, x.stamp(2, 1), 50 / ink + 1);
                due("no ink left" + of, x.stamp(2, 0), 0);
                due("the form has it" + of, x.count(7), 4);
            }
        }
    }

    private static void noInkNeeded() {
        about("INK 0: a stamp without ink leaves a mark, too");
        PegClerks x = Checks.withDrum("0:2");
        x.set(PegClerks.INK, 5);
        x.step(160);
        due("no ink", x.stamp(2, 0), 0);
        x.set(PegClerks.INK, 0);
        x.step(1);
        due("a mark", x.stamp(2, 1), 11);
        due("the form has it", x.count(7), 4);
        due("no ink still", x.stamp(2, 0), 0);
        due("none without a mark", x.stamp(2, 2), 0);
        x.set(PegClerks.INK, 1);
        x.step(16);
        due("the least INK is more than none", x.stamp(2, 2), 1);
    }

    private static void stampedOnceMore() {
        about("The peg has stamped once more, with a mark or not");
        PegClerks x = Checks.withDrum("0:5");
        x.set(PegClerks.INK, 9);
        for (int turn = 1; turn <= 7; turn++) {
            x.step(16);
            due("stamped behind turn " + turn, x.stamped(0, 5), turn);
        }
        due("marks", x.stamp(5, 1), 5);
        due("without a mark", x.stamp(5, 2), 2);
    }

    private static void lifeOfNone() {
        about("LIFE (0 to 99; 0): stampings; 0: pegs never fall out");
        PegClerks x = Checks.withDrum("0:5");
        for (int call = 0; call < 100; call++) {
            x.step(160);
        }
        due("stamped", x.stamped(0, 5), 1000);
        due("none fell out", x.count(16), 0);
    }

    private static void lifeTimesOrMore() {
        about("if LIFE is not 0, and it has stamped LIFE times or more, it falls out");
        for (int life = 1; life <= 5; life++) {
            PegClerks x = Checks.withDrum("0:5;1:0");
            x.set(PegClerks.LIFE, life);
            String of = " with LIFE " + life;
            for (int turn = 1; turn < life; turn++) {
                x.step(16);
                due("stamped" + of, x.stamped(0, 5), turn);
            }
            due("none fell out" + of, x.count(16), 0);
            x.step(1);
            due("it fell out" + of, x.stamped(0, 5), NONE);
            due("one fell out" + of, x.count(16), 1);
            due("pegs of the row" + of, x.row(0, 1), 0);
            due("pegs of the drum" + of, x.count(15), 1);
            due("it stamped when it fell out" + of, x.stamp(5, 1), life);
            x.step(16);
            due("not any more" + of, x.stamp(5, 1), life);
            due("the other fell out, too" + of, x.count(15), 0);
        }
    }

    private static void longestLife() {
        about("LIFE 99");
        PegClerks x = Checks.withDrum("3:4");
        x.set(PegClerks.LIFE, 99);
        for (int turn = 1; turn <= 98; turn++) {
            x.step(16);
        }
        due("stamped 98 times", x.stamped(3, 4), 98);
        due("none fell out", x.count(16), 0);
        x.step(16);
        due("the 99th time", x.stamped(3, 4), NONE);
        due("one fell out", x.count(16), 1);
    }

    private static void lifeThatIsShorterThen() {
        about("it has stamped LIFE times or more: more, when LIFE was changed");
        PegClerks x = Checks.withDrum("0:0");
        x.step(64);
        x.set(PegClerks.LIFE, 2);
        due("it does not fall out by the setting", x.stamped(0, 0), 4);
        x.set(PegClerks.LIFE, 0);
        x.step(1);
        due("LIFE 0 again", x.stamped(0, 0), 5);
        x.set(PegClerks.LIFE, 1);
        x.step(15);
        due("not by other rows' steps", x.stamped(0, 0), 5);
        x.step(1);
        due("by its own stamping", x.stamped(0, 0), NONE);
        due("one fell out", x.count(16), 1);
    }

    private static void rowBehind15() {
        about("Then the drum stands at the next row (0 behind 15)");
        PegClerks x = new PegClerks();
        for (int step = 1; step <= 33; step++) {
            x.step(1);
            due("behind step " + step, x.count(4), step % 16);
        }
        x.step(14);
        due("row 15", x.count(4), 15);
        x.step(1);
        due("row 0", x.count(4), 0);
        x.step(200);
        due("behind 200 more", x.count(4), 8);
    }

    private static void formForFormSteps() {
        about("A form lies beneath for FORM steps; then the next one comes");
        for (int form = 1; form <= 8; form++) {
            PegClerks x = new PegClerks();
            x.set(PegClerks.FORM, form);
            for (int step = 1; step <= 2 * form; step++) {
                x.step(1);
                due("it has lain, of FORM " + form, x.count(9), step % form);
                due("forms that are done, of FORM " + form, x.count(11), step / form);
            }
        }
    }

    private static void formOrMoreAsFormIsThen() {
        about("If these are FORM or more (as FORM is then), it is done");
        PegClerks x = new PegClerks();
        x.set(PegClerks.FORM, 8);
        x.step(7);
        x.set(PegClerks.FORM, 1);
        due("not done by the setting", x.count(11), 0);
        due("it has lain", x.count(9), 7);
        x.step(1);
        due("done: it has lain for more", x.count(11), 1);
        due("the next one has lain for none", x.count(9), 0);
        x.set(PegClerks.FORM, 4);
        x.step(3);
        x.set(PegClerks.FORM, 3);
        due("just as much as FORM, but no step", x.count(11), 1);
        x.set(PegClerks.FORM, 5);
        x.step(1);
        due("not done: FORM is more then", x.count(9), 4);
        x.step(1);
        due("done", x.count(11), 2);
    }

    private static void rightWrongOrSpoiled() {
        about("right, if it is not spoiled and has just the stamps of the order, otherwise spoiled, otherwise wrong");
        formIs("", 0, 11);
        formIs("", 1, 12);
        formIs("0:0", 0, 12);
        formIs("0:0", 1, 11);
        formIs("0:0", 2, 12);
        formIs("0:0", 3, 12);
        formIs("0:0;1:1", 1, 12);
        formIs("0:0;1:1", 3, 11);
        formIs("0:0;1:0", 0, 13);
        formIs("0:0;1:0", 1, 13);
        formIs("0:0;1:0", 2, 13);
        formIs("0:5;3:5", 32, 13);
        formIs("0:5;4:5", 32, 11);
    }

    /** The first form has to be counted there, and nowhere else. */
    private static void formIs(String drum, int order, int count) {
        PegClerks x = drum.isEmpty() ? new PegClerks() : Checks.withDrum(drum);
        x.order(order);
        x.step(3);
        due("none is done with " + drum, x.count(11) + x.count(12) + x.count(13), 0);
        x.step(1);
        for (int what = 11; what <= 13; what++) {
            due("count(" + what + ") with " + drum + " and order " + order, x.count(what), what == count ? 1 : 0);
        }
    }

    private static void nextFormWithoutStamps() {
        about("and the next one comes, without stamps");
        PegClerks x = Checks.withDrum("0:0;1:0;3:3");
        x.step(3);
        due("the form has", x.count(7), 1);
        due("it is spoiled", x.count(8), 1);
        x.step(1);
        due("the next one has", x.count(7), 0);
        due("it is not spoiled", x.count(8), 0);
        due("it has lain", x.count(9), 0);
        x.step(4);
        due("it was wrong or right", x.count(11), 1);
    }

    private static void putInAnew() {
        about("A peg that is put in anew has stamped 0 times");
        PegClerks x = Checks.withDrum("0:0");
        x.step(33);
        due("stamped", x.stamped(0, 0), 3);
        x.peg(0, 0);
        x.peg(0, 0);
        due("by peg", x.stamped(0, 0), 0);
        x.step(16);
        Checks.write(x, "0:;0:0");
        x.read();
        due("by read", x.stamped(0, 0), 0);
        x.set(PegClerks.LIFE, 1);
        x.step(16);
        due("fallen out", x.stamped(0, 0), NONE);
        x.peg(0, 0);
        due("by peg, behind a fall", x.stamped(0, 0), 0);
        x.step(16);
        Checks.write(x, "0:0");
        x.read();
        due("by read, behind a fall", x.stamped(0, 0), 0);
        x.set(PegClerks.LIFE, 2);
        x.step(16);
        due("it lives from its beginning on", x.stamped(0, 0), 1);
    }

    // ---- promise 6

    private static void stepsOutOfRange() {
        about("steps: 1 to 200; BAD_VALUE if steps is out of range");
        PegClerks x = Checks.withDrum("0:0");
        String before = Checks.state(x, true);
        for (int off : Checks.outside(1, 200)) {
            due("step(" + off + ")", x.step(off), BAD_VALUE);
        }
        Checks.sameState("nothing is different", Checks.state(x, true), before);
        due("step(1)", x.step(1), 1);
        due("step(200)", x.step(200), 200);
        due("steps so far", x.count(10), 201);
    }

    private static void untilTheClerkJams() {
        about("Makes steps, until the clerk jams (a step that jams is none)");
        PegClerks x = Checks.withDrum("5:34");
        due("as many as are ahead of the jam", x.step(5), 5);
        due("it does not jam yet", x.count(5), 0);
        due("one more", x.step(1), 0);
        due("it jams", x.count(5), 1);
        due("0 is no error: a change", x.count(19), 3);
        due("steps so far", x.count(10), 5);
        x.undo();
        x.undo();
        due("one more than are ahead of the jam", x.step(6), 5);
        due("it jams then", x.count(5), 1);
        x.undo();
        due("the most", x.step(200), 5);
        due("jams so far", x.count(14), 1);
        PegClerks far = Checks.withDrum("15:34");
        far.step(1);
        far.peg(0, 0);
        far.peg(0, 1);
        far.peg(15, 3);
        due("behind the turn of the drum", far.step(200), 15);
        due("in row 0", far.count(4), 0);
    }

    private static void stepWhenJammed() {
        about("step: NOT_POSSIBLE if the clerk is jammed");
        PegClerks x = withPegsInRow0(6);
        x.step(1);
        due("step(0) of a jammed one: the first error", x.step(0), BAD_VALUE);
        due("step(201) of a jammed one: the first error", x.step(201), BAD_VALUE);
        due("step(1) of a jammed one", x.step(1), NOT_POSSIBLE);
        due("step(200) of a jammed one", x.step(200), NOT_POSSIBLE);
        due("changes", x.count(19), 2);
        x.undo();
        due("it is not jammed ahead of the step", x.step(1), 0);
        x.free();
        due("freed", x.step(1), 1);
    }

    private static PegClerks behind99800Steps() {
        PegClerks x = new PegClerks();
        for (int call = 0; call < 499; call++) {
            x.step(200);
        }
        return x;
    }

    private static void stepsSoFarAboveTheMost() {
        about("TOO_MANY if the steps so far would be above 99999");
        PegClerks x = behind99800Steps();
        due("one above", x.step(200), TOO_MANY);
        due("steps so far stay", x.count(10), 99800);
        due("changes stay", x.count(19), 6);
        due("just 99999", x.step(199), 199);
        due("step(1)", x.step(1), TOO_MANY);
        due("step(200)", x.step(200), TOO_MANY);
        due("step(201): the first error", x.step(201), BAD_VALUE);
        due("step(0): the first error", x.step(0), BAD_VALUE);
        due("steps so far", x.count(10), 99999);
        due("undo()", x.undo(), 5);
        due("fewer steps so far", x.step(1), 1);
    }

    private static void jammedAheadOfTheMost() {
        about("NOT_POSSIBLE if the clerk is jammed; TOO_MANY if the steps so far would be above 99999");
        PegClerks x = behind99800Steps();
        due("it stands at", x.count(4), 8);
        x.peg(11, 0);
        x.peg(11, 1);
        due("steps up to the jam", x.step(9), 3);
        due("jammed, and too many: the first error", x.step(200), NOT_POSSIBLE);
        x.free();
        due("too many", x.step(197), TOO_MANY);
        due("not jammed", x.free(), NOT_POSSIBLE);
        due("all that are left", x.step(15), 15);
    }

    // ---- promise 7

    private static void freeWhenNotJammed() {
        about("free: NOT_POSSIBLE if it is not jammed");
        PegClerks x = withPegsInRow0(2);
        String before = Checks.state(x, true);
        due("ahead of the jam", x.free(), NOT_POSSIBLE);
        Checks.sameState("nothing is different", Checks.state(x, true), before);
        x.step(1);
        due("jammed in row 0: 0 is no error", x.free(), 0);
        due("freed already", x.free(), NOT_POSSIBLE);
        due("changes", x.count(19), 3);
    }

    private static void freeBehind15() {
        about("the drum goes on to the next row (0 behind 15)");
        for (int row = 0; row < 16; row++) {
            PegClerks x = Checks.withDrum(row + ":01");
            due("steps up to row " + row, x.step(20), row);
            due("free() in row " + row, x.free(), row);
            due("it stands behind row " + row, x.count(4), (row + 1) % 16);
            due("it is not jammed", x.count(5), 0);
            due("it goes on", x.step(15), 15);
        }
    }

    private static void freeWithoutAStep() {
        about("without a stamp and without a step of the form");
        PegClerks x = Checks.withDrum("0:5;1:5;2:01");
        x.set(PegClerks.FORM, 8);
        x.set(PegClerks.LIFE, 2);
        x.step(9);
        x.set(PegClerks.FORM, 1);
        String before = Checks.stateBut(x, 4, 5, 19);
        due("free()", x.free(), 2);
        Checks.sameState("but for where it stands, jammed and changes", Checks.stateBut(x, 4, 5, 19), before);
        due("the form that lay for longer than FORM lies still", x.count(9), 2);
        due("none is done", x.count(13), 0);
        due("where it stands", x.count(4), 3);
    }

    // ---- promise 8

    private static void newFormOfNothing() {
        about("Returns the stamps that the old one had: none");
        PegClerks x = Checks.withDrum("1:0");
        due("the first form", x.newForm(), 0);
        due("is a change, though nothing is different", x.count(19), 2);
        x.step(1);
        due("a form that lay for a step without a stamp", x.newForm(), 0);
        due("it lies for no step", x.count(9), 0);
        x.step(1);
        due("a form with a stamp", x.newForm(), 1);
        due("the new one has none", x.newForm(), 0);
    }

    private static void newFormOfASpoiledOne() {
        about("Takes the form away, and lays a new one beneath");
        PegClerks x = Checks.withDrum("0:0;1:0;2:1");
        x.step(3);
        String before = Checks.stateBut(x, 7, 8, 9, 19);
        due("newForm()", x.newForm(), 3);
        Checks.sameState("but for the form and changes", Checks.stateBut(x, 7, 8, 9, 19), before);
        due("its stamps", x.count(7), 0);
        due("spoiled", x.count(8), 0);
        due("it has lain", x.count(9), 0);
        due("the old one is not counted", x.count(11) + x.count(12) + x.count(13), 0);
        x.step(4);
        due("the new one is right", x.count(11), 1);
    }

    private static void newFormForNoStep() {
        about("which has lain for no step");
        PegClerks x = new PegClerks();
        x.step(3);
        x.newForm();
        x.step(3);
        due("three steps of four", x.count(11), 0);
        x.step(1);
        due("four", x.count(11), 1);
        x.newForm();
        due("just behind the form that is done", x.count(9), 0);
        x.step(4);
        due("four more", x.count(11), 2);
    }

    private static void newFormWhenJammed() {
        about("newForm of a jammed clerk");
        PegClerks x = Checks.withDrum("0:5;1:01");
        x.step(2);
        due("newForm()", x.newForm(), 32);
        due("it is jammed still", x.count(5), 1);
        due("step(1)", x.step(1), NOT_POSSIBLE);
        due("free()", x.free(), 1);
        due("the form has lain", x.count(9), 0);
    }
}
