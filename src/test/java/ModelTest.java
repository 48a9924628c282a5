import java.util.Random;

/** Long runs of calls, always the same ones, whose answers must be those of the model. */
public final class ModelTest {
    private static final int RUNS = 4000;
    private static final int CALLS = 512;
    private static final String SIGNS = "0123456789:;:;:;012345/<!~";

    private final Random random;
    private final PegClerks clerk = new PegClerks();
    private final Model model = new Model();
    private final StringBuilder told = new StringBuilder();
    private boolean differs = false;
    private int calls = 0;

    private ModelTest(long seed) {
        random = new Random(seed);
    }

    public static void main(String[] args) {
        for (int seed = 0; seed < RUNS; seed++) {
            ModelTest run = new ModelTest(seed);
            while (run.calls < CALLS && !run.differs) {
                run.call();
            }
            if (run.differs) {
                System.out.println("run " + seed + ":\n" + run.told);
            }
            Checks.due("run " + seed + " differs", run.differs ? 1 : 0, 0);
        }
        Checks.end();
    }

    private void same(String call, int got, int want) {
        calls++;
        if (calls > CALLS) {
            return;
        }
        told.append(call).append(" = ").append(got).append('\n');
        if (got != want) {
            told.append("  due is ").append(want).append('\n');
            differs = true;
        }
    }

    /** Mostly 0 to below, but now and then a little or far outside. */
    private int number(int below) {
        switch (random.nextInt(40)) {
            case 0: return -1 - random.nextInt(3);
            case 1: return below + random.nextInt(3);
            case 2: return random.nextInt(3) == 0 ? random.nextInt() : random.nextInt(below);
            default: return random.nextInt(below);
        }
    }

    private void call() {
        switch (random.nextInt(30)) {
            case 0: case 1: callSet(); break;
            case 2: case 3: case 4: case 5: callPeg(); break;
            case 6: callOrder(); break;
            case 7: callInk(); break;
            case 8: case 9: case 10: case 11: callStep(); break;
            case 12: case 13: same("free()", clerk.free(), model.free()); break;
            case 14: callRarely(); break;
            case 15: same("read()", clerk.read(), model.read()); break;
            case 16: callRow(); break;
            case 17: callStamped(); break;
            case 18: callStamp(); break;
            case 19: case 20: callCount(); break;
            case 21: same("untilJam()", clerk.untilJam(), model.untilJam()); break;
            case 22: callIfStepped(); break;
            case 23: same("bestOut()", clerk.bestOut(), model.bestOut()); break;
            case 24: callNextStamps(); break;
            case 25: callPut(); break;
            case 26: callPutRows(); break;
            case 27: same("fault()", clerk.fault(), model.fault()); break;
            case 28: same("undo()", clerk.undo(), model.undo()); break;
            default: callSlots(); break;
        }
        callCount();
    }

    private void callSet() {
        int setting = number(4);
        int value = number(setting == 2 ? 12 : 9);
        same("set(" + setting + ", " + value + ")", clerk.set(setting, value), model.set(setting, value));
    }

    private void callPeg() {
        int row = number(16);
        int place = number(6);
        same("peg(" + row + ", " + place + ")", clerk.peg(row, place), model.peg(row, place));
    }

    /** The order is often what the next form will have, so that forms are right now and then. */
    private void callOrder() {
        int stamps = random.nextBoolean() ? number(64) : model.nextStamps(0);
        same("order(" + stamps + ")", clerk.order(stamps), model.order(stamps));
    }

    private void callInk() {
        int stamp = number(6);
        same("ink(" + stamp + ")", clerk.ink(stamp), model.ink(stamp));
    }

    private void callStep() {
        int steps = random.nextInt(4) == 0 ? number(201) : number(12);
        same("step(" + steps + ")", clerk.step(steps), model.step(steps));
    }

    private void callRarely() {
        if (random.nextBoolean()) {
            same("newForm()", clerk.newForm(), model.newForm());
        } else {
            same("wipe()", clerk.wipe(), model.wipe());
        }
    }

    private void callRow() {
        int row = number(16);
        int what = number(4);
        same("row(" + row + ", " + what + ")", clerk.row(row, what), model.row(row, what));
    }

    private void callStamped() {
        int row = number(16);
        int place = number(6);
        same("stamped(" + row + ", " + place + ")", clerk.stamped(row, place), model.stamped(row, place));
    }

    private void callStamp() {
        int stamp = number(6);
        int what = number(5);
        same("stamp(" + stamp + ", " + what + ")", clerk.stamp(stamp, what), model.stamp(stamp, what));
    }

    private void callCount() {
        int what = number(20);
        same("count(" + what + ")", clerk.count(what), model.count(what));
    }

    private void callIfStepped() {
        int steps = number(501);
        int what = number(5);
        same("ifStepped(" + steps + ", " + what + ")", clerk.ifStepped(steps, what), model.ifStepped(steps, what));
    }

    private void callNextStamps() {
        int way = number(2);
        same("nextStamps(" + way + ")", clerk.nextStamps(way), model.nextStamps(way));
    }

    private void callPut() {
        long characters = random.nextInt(9) == 0 ? random.nextLong() : 0;
        int many = random.nextInt(9);
        for (int i = 0; i < many; i++) {
            characters = characters << 8 | (random.nextInt(60) == 0 ? random.nextInt(256) : SIGNS.charAt(random.nextInt(SIGNS.length())));
        }
        same("put(" + characters + "L)", clerk.put(characters), model.put(characters));
    }

    /** A few good rows, so that read has something to read. */
    private void callPutRows() {
        same("wipe()", clerk.wipe(), model.wipe());
        for (int more = random.nextInt(4); more >= 0; more--) {
            StringBuilder row = new StringBuilder().append(random.nextInt(16)).append(':');
            for (int place = 0; place < 6 && row.length() < 7; place++) {
                if (random.nextInt(4) == 0) {
                    row.append(place);
                }
            }
            long characters = Checks.packed(row.append(more > 0 ? ";" : "").toString());
            same("put(" + characters + "L)", clerk.put(characters), model.put(characters));
        }
        same("read()", clerk.read(), model.read());
    }

    private void callSlots() {
        int slot = number(2);
        if (random.nextBoolean()) {
            same("save(" + slot + ")", clerk.save(slot), model.save(slot));
        } else {
            same("restore(" + slot + ")", clerk.restore(slot), model.restore(slot));
        }
    }
}
