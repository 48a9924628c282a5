import java.util.function.Consumer;

/** The edges of the sentences of promises 21 to 23, undo and saved states: a method for each sentence. */
public final class HistoryEdgesTest {
    private static final int BAD_VALUE = PegClerks.BAD_VALUE;
    private static final int NOT_POSSIBLE = PegClerks.NOT_POSSIBLE;

    public static void main(String[] args) {
        undoOfNothing();
        atMost6States();
        theOldestIsDropped();
        eachChangeIsRecorded();
        nothingDifferentIsRecorded();
        noErrorIsRecorded();
        questionsAreNotRecorded();
        everythingIsAsItWas();
        undoOfAJam();
        butThePad();
        butTheSlots();
        undoneAndChangedAgain();
        saveOfNoSuchSlot();
        saveOverwrites();
        slotsApart();
        everythingIsSaved();
        savedButThePad();
        savedButTheHistory();
        savedButTheSlots();
        restoreOfNothing();
        restoreOfNoSuchSlot();
        theSlotKeepsIt();
        restoreIsAChange();
        restoreReturnsPegsOfThen();
        the512thCall();
        Checks.end();
    }

    private static void about(String sentence) {
        Checks.about(sentence);
    }

    private static void due(String what, long got, long want) {
        Checks.due(what, got, want);
    }

    /** A clerk with something else than at first wherever there can be. */
    private static PegClerks used() {
        PegClerks x = Checks.withDrum("0:0;1:0;2:12;3:0;4:0;5:4;6:12345");
        x.set(PegClerks.DOUBLES, 2);
        x.set(PegClerks.INK, 9);
        x.set(PegClerks.LIFE, 3);
        x.step(22);
        x.free();
        x.step(15);
        x.order(18);
        x.set(PegClerks.FORM, 7);
        return x;
    }

    /** Changes all that can be different. */
    private static void changeAll(PegClerks x) {
        x.free();
        x.set(PegClerks.FORM, 2);
        x.set(PegClerks.INK, 3);
        x.set(PegClerks.LIFE, 4);
        x.set(PegClerks.DOUBLES, 4);
        x.order(5);
        x.ink(1);
        x.peg(6, 1);
        x.peg(9, 0);
        x.step(41);
    }

    // ---- promise 21

    private static void undoOfNothing() {
        about("undo: NOT_POSSIBLE if there is none");
        PegClerks x = new PegClerks();
        Checks.write(x, "0:");
        x.save(0);
        String before = Checks.state(x, true);
        due("undo() of a new one", x.undo(), NOT_POSSIBLE);
        Checks.sameState("nothing is different", Checks.state(x, true), before);
        x.order(3);
        due("undo() of one", x.undo(), 0);
        due("undo() of none", x.undo(), NOT_POSSIBLE);
        Checks.sameState("nothing is different behind the first state", Checks.state(x, true), before);
    }

    private static void atMost6States() {
        about("A history of at most 6 states is kept");
        for (int changes = 0; changes <= 20; changes++) {
            PegClerks x = new PegClerks();
            for (int change = 1; change <= changes; change++) {
                x.order(change);
            }
            int kept = Math.min(changes, 6);
            due("behind " + changes + " changes", x.count(19), kept);
            for (int left = kept - 1; left >= 0; left--) {
                due("undo() of " + changes + " changes", x.undo(), left);
                due("the order is that of then", x.count(6), changes - kept + left);
            }
            due("no more", x.undo(), NOT_POSSIBLE);
            due("the order stays", x.count(6), changes - kept);
        }
    }

    private static void theOldestIsDropped() {
        about("when one more is recorded, the oldest one is dropped");
        PegClerks x = new PegClerks();
        for (int change = 1; change <= 6; change++) {
            x.order(change);
        }
        x.undo();
        x.order(16);
        x.order(17);
        due("full again", x.count(19), 6);
        int[] orders = {16, 5, 4, 3, 2, 1};
        for (int left = 5; left >= 0; left--) {
            due("undo()", x.undo(), left);
            due("order", x.count(6), orders[5 - left]);
        }
        due("the first state is dropped", x.undo(), NOT_POSSIBLE);
    }

    private static void eachChangeIsRecorded() {
        about("each method that is a change, and returns no error, records the state before it");
        recorded("set", x -> x.set(PegClerks.FORM, 3));
        recorded("peg in", x -> x.peg(3, 3));
        recorded("peg out", x -> x.peg(9, 0));
        recorded("order", x -> x.order(9));
        recorded("ink", x -> x.ink(0));
        recorded("step", x -> x.step(1));
        recorded("step up to a jam", x -> x.step(200));
        recorded("newForm", PegClerks::newForm);
        recorded("read", x -> {
            x.put(Checks.packed("9:1"));
            x.read();
        });
        recorded("restore", x -> x.restore(1));
        PegClerks jammed = Checks.withDrum("0:01");
        jammed.step(1);
        String before = Checks.state(jammed, false);
        jammed.free();
        due("changes behind free", jammed.count(19), 3);
        jammed.undo();
        Checks.sameState("free is undone", Checks.state(jammed, false), before);
        due("jammed again", jammed.step(1), NOT_POSSIBLE);
    }

    private static void recorded(String what, Consumer<PegClerks> change) {
        PegClerks x = Checks.withDrum("0:0;1:0;9:0;15:01");
        x.save(1);
        x.step(2);
        x.save(0);
        String before = Checks.state(x, false);
        change.accept(x);
        due("changes behind " + what, x.count(19), 3);
        due("undo() of " + what, x.undo(), 2);
        Checks.sameState(what + " is undone", Checks.state(x, false), before);
    }

    private static void nothingDifferentIsRecorded() {
        about("(also if nothing is different then)");
        PegClerks x = new PegClerks();
        x.set(PegClerks.FORM, 4);
        due("the same setting", x.count(19), 1);
        x.order(0);
        due("the same order", x.count(19), 2);
        x.newForm();
        due("a new form for a new one", x.count(19), 3);
        x.put(Checks.packed("0:"));
        x.read();
        due("no pegs for none", x.count(19), 4);
        x.save(0);
        x.restore(0);
        due("the same state", x.count(19), 5);
        x.undo();
        x.undo();
        x.ink(0);
        x.ink(0);
        due("no more ink for a full stamp", x.count(19), 5);
        due("undo() of nothing different", x.undo(), 4);
        due("the ink is full still", x.stamp(0, 0), 99);
        due("undo() of the ink", x.undo(), 3);
        due("the ink is as before", x.stamp(0, 0), 50);
    }

    private static void noErrorIsRecorded() {
        about("and returns no error");
        PegClerks x = Checks.withDrum("0:01");
        x.free();
        x.set(0, 0);
        x.peg(16, 0);
        x.order(64);
        x.ink(6);
        x.step(0);
        x.read();
        x.restore(0);
        x.restore(2);
        due("not jammed", x.count(19), 1);
        x.step(1);
        x.step(1);
        due("jammed", x.count(19), 2);
        due("undo() of the jam", x.undo(), 1);
        due("undo() of the read", x.undo(), 0);
        due("undo() of nothing", x.undo(), NOT_POSSIBLE);
        due("is not recorded, too", x.count(19), 0);
    }

    private static void questionsAreNotRecorded() {
        about("each method that is a change: no other one");
        PegClerks x = Checks.withDrum("0:0");
        x.put('1');
        x.fault();
        x.wipe();
        x.save(0);
        x.save(1);
        x.row(0, 0);
        x.stamped(0, 0);
        x.stamp(0, 0);
        x.count(0);
        x.untilJam();
        x.ifStepped(100, 0);
        x.bestOut();
        x.nextStamps(0);
        due("changes", x.count(19), 1);
        due("undo()", x.undo(), 0);
        due("the drum is empty", x.count(15), 0);
    }

    private static void everythingIsAsItWas() {
        about("everything except the pad, the slots and the history is as it was before it");
        PegClerks x = used();
        x.save(0);
        String before = Checks.state(x, false);
        changeAll(x);
        String changed = Checks.state(x, false);
        x.restore(0);
        due("undo() of the restore", x.undo(), 5);
        Checks.sameState("all that was different", Checks.state(x, false), changed);
        PegClerks y = used();
        y.step(200);
        y.undo();
        Checks.sameState("all that steps change", Checks.state(y, false), before);
    }

    private static void undoOfAJam() {
        about("undo of a step that jams");
        PegClerks x = Checks.withDrum("3:01");
        x.step(9);
        due("jammed", x.count(5), 1);
        due("undo()", x.undo(), 1);
        due("not jammed", x.count(5), 0);
        due("no jam so far", x.count(14), 0);
        due("no step so far", x.count(10), 0);
        due("where it stands", x.count(4), 0);
        due("free()", x.free(), NOT_POSSIBLE);
        due("the steps again", x.step(9), 3);
    }

    private static void butThePad() {
        about("undo: everything except the pad");
        PegClerks x = new PegClerks();
        Checks.write(x, "5:5");
        x.order(7);
        x.put(Checks.packed(";6:6"));
        due("undo()", x.undo(), 0);
        due("length", x.count(18), 7);
        due("fault", x.fault(), 6);
        x.wipe();
        Checks.write(x, "5:5");
        x.read();
        x.undo();
        due("the pad is empty still", x.count(18), 0);
        x.order(9);
        x.put('1');
        x.undo();
        due("a character more", x.count(18), 1);
    }

    private static void butTheSlots() {
        about("undo: everything except the slots");
        PegClerks x = new PegClerks();
        x.order(1);
        x.save(0);
        x.order(2);
        x.save(0);
        x.save(1);
        x.undo();
        x.undo();
        due("order", x.count(6), 0);
        due("slot 0 keeps what was saved last", x.restore(0) + x.count(6), 2);
        due("undo()", x.undo(), 0);
        due("slot 1 is there still", x.restore(1) + x.count(6), 2);
    }

    private static void undoneAndChangedAgain() {
        about("Undoes the latest change");
        PegClerks x = new PegClerks();
        for (int round = 0; round < 20; round++) {
            x.order(round + 1);
            x.order(63);
            due("undo()", x.undo(), Math.min(round + 1, 5));
            due("order", x.count(6), round + 1);
        }
        for (int left = 4; left >= 0; left--) {
            due("undo() then", x.undo(), left);
            due("order then", x.count(6), 15 + left);
        }
        due("no more", x.undo(), NOT_POSSIBLE);
    }

    // ---- promise 22

    private static void saveOfNoSuchSlot() {
        about("slot: 0 or 1; save: BAD_VALUE if there is no such slot");
        PegClerks x = Checks.withDrum("0:0;1:1");
        for (int slot : Checks.outside(0, 1)) {
            due("save(" + slot + ")", x.save(slot), BAD_VALUE);
        }
        due("nothing is saved in 0", x.restore(0), NOT_POSSIBLE);
        due("nothing is saved in 1", x.restore(1), NOT_POSSIBLE);
        due("save(0)", x.save(0), 2);
        due("save(1)", x.save(1), 2);
    }

    private static void saveOverwrites() {
        about("and overwrites what was saved there");
        PegClerks x = new PegClerks();
        for (int time = 1; time <= 5; time++) {
            x.order(time);
            due("save(1) of an empty drum", x.save(1), 0);
        }
        x.order(0);
        x.restore(1);
        due("the last one", x.count(6), 5);
        x.peg(0, 0);
        due("save(1)", x.save(1), 1);
        due("a refused one does not overwrite", x.save(2), BAD_VALUE);
        x.peg(0, 1);
        due("restore(1)", x.restore(1), 1);
    }

    private static void slotsApart() {
        about("save: in a slot");
        PegClerks x = new PegClerks();
        x.order(1);
        x.save(1);
        due("slot 0 is empty", x.restore(0), NOT_POSSIBLE);
        x.order(2);
        x.save(0);
        x.order(3);
        x.restore(1);
        due("slot 1", x.count(6), 1);
        x.restore(0);
        due("slot 0", x.count(6), 2);
        x.restore(1);
        due("slot 1 again", x.count(6), 1);
    }

    private static void everythingIsSaved() {
        about("Saves everything except the pad, the history and the slots");
        for (int slot = 0; slot <= 1; slot++) {
            PegClerks x = used();
            String before = Checks.state(x, false);
            due("save(" + slot + ")", x.save(slot), x.count(15));
            Checks.sameState("nothing is different by save", Checks.state(x, false), before);
            changeAll(x);
            x.restore(slot);
            Checks.sameState("all is back from " + slot, Checks.state(x, false), before);
        }
        PegClerks jammed = Checks.withDrum("0:0;1:01");
        jammed.step(9);
        jammed.save(0);
        jammed.free();
        jammed.restore(0);
        due("jammed again", jammed.step(1), NOT_POSSIBLE);
        due("free()", jammed.free(), 1);
    }

    private static void savedButThePad() {
        about("save and restore: except the pad");
        PegClerks x = new PegClerks();
        Checks.write(x, "5:5");
        x.save(0);
        x.wipe();
        x.restore(0);
        due("the pad stays empty", x.count(18), 0);
        Checks.write(x, "1:0;");
        x.restore(0);
        due("the pad stays as it is", x.fault(), 4);
    }

    private static void savedButTheHistory() {
        about("save and restore: except the history");
        PegClerks x = new PegClerks();
        x.order(1);
        x.order(2);
        x.save(0);
        due("changes behind save", x.count(19), 2);
        x.undo();
        x.undo();
        x.restore(0);
        due("changes behind restore", x.count(19), 1);
        x.order(3);
        x.order(4);
        x.restore(0);
        due("changes behind the next one", x.count(19), 4);
        int[] orders = {4, 3, 2, 0};
        for (int order : orders) {
            x.undo();
            due("order", x.count(6), order);
        }
        due("no more", x.undo(), NOT_POSSIBLE);
    }

    private static void savedButTheSlots() {
        about("save and restore: except the slots");
        PegClerks x = new PegClerks();
        x.order(1);
        x.save(0);
        x.order(2);
        x.save(1);
        x.restore(0);
        due("slot 1 was empty when slot 0 was saved", x.restore(1), 0);
        due("order", x.count(6), 2);
    }

    // ---- promise 23

    private static void restoreOfNothing() {
        about("restore: NOT_POSSIBLE if nothing was saved in it");
        PegClerks x = Checks.withDrum("0:0");
        String before = Checks.state(x, true);
        due("restore(0)", x.restore(0), NOT_POSSIBLE);
        due("restore(1)", x.restore(1), NOT_POSSIBLE);
        Checks.sameState("nothing is different", Checks.state(x, true), before);
        x.undo();
        due("save(0) of an empty drum", x.save(0), 0);
        due("restore(0) of an empty drum: 0 is no error", x.restore(0), 0);
        due("restore(1) still", x.restore(1), NOT_POSSIBLE);
        due("changes", x.count(19), 1);
    }

    private static void restoreOfNoSuchSlot() {
        about("restore: BAD_VALUE if there is no such slot; NOT_POSSIBLE if nothing was saved in it");
        PegClerks x = new PegClerks();
        for (int saved = 0; saved < 3; saved++) {
            for (int slot : Checks.outside(0, 1)) {
                due("restore(" + slot + "): the first error", x.restore(slot), BAD_VALUE);
            }
            x.save(saved);
        }
        due("no change", x.count(19), 0);
    }

    private static void theSlotKeepsIt() {
        about("Restores what was saved last in a slot, which keeps it");
        PegClerks x = Checks.withDrum("0:0;1:01");
        x.step(1);
        x.save(1);
        String saved = Checks.state(x, false);
        for (int time = 0; time < 3; time++) {
            x.step(1);
            x.peg(1, 1);
            x.ink(0);
            x.free();
            x.step(200);
            due("restore(1)", x.restore(1), 3);
            Checks.sameState("as it was saved, " + time, Checks.state(x, false), saved);
        }
    }

    private static void restoreIsAChange() {
        about("restore: This is a change");
        PegClerks x = new PegClerks();
        x.save(0);
        for (int time = 1; time <= 8; time++) {
            x.order(time);
            x.restore(0);
            due("changes", x.count(19), Math.min(2 * time, 6));
        }
        int[] orders = {8, 0, 7, 0, 6, 0};
        for (int left = 5; left >= 0; left--) {
            due("undo()", x.undo(), left);
            due("order", x.count(6), orders[5 - left]);
        }
    }

    private static void restoreReturnsPegsOfThen() {
        about("Returns how many pegs the drum has then");
        PegClerks x = new PegClerks();
        due("save(0) of none", x.save(0), 0);
        for (int row = 0; row < 16; row++) {
            for (int place = 0; place < 6; place++) {
                x.peg(row, place);
            }
        }
        due("save(1) of all", x.save(1), 96);
        due("restore(0)", x.restore(0), 0);
        due("restore(1)", x.restore(1), 96);
        due("pegs of the drum", x.count(15), 96);
    }

    // ---- the life of an object

    private static void the512thCall() {
        about("An object is used for at most 512 calls after it has been made");
        PegClerks x = new PegClerks();
        for (int call = 1; call <= 510; call++) {
            due("call " + call, x.order(call % 64), (call - 1) % 64);
        }
        due("call 511", x.undo(), 5);
        due("call 512", x.count(6), 509 % 64);
    }
}
