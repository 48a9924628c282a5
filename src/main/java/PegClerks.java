/** A mechanical clerk that stamps by a drum of pegs and jams on doubles. */
public final class PegClerks {
    public static final int NO_SUCH = -1, BAD_VALUE = -2, BAD_TEXT = -3, TOO_MANY = -4, NOT_POSSIBLE = -5, NONE = -6;
    public static final int FORM = 0, INK = 1, LIFE = 2, DOUBLES = 3;

    private static final int ROWS = 16;
    private static final int PLACES = 6;
    private static final int SETS = 64;
    private static final int SETTINGS = 4;
    private static final int FULL_INK = 99;
    private static final int FIRST_INK = 50;
    private static final int MOST_STEPS_A_CALL = 200;
    private static final int MOST_STEPS_AHEAD = 500;
    private static final int MOST_STEPS_SO_FAR = 99999;
    private static final int STEPS_OF_BEST_OUT = 64;
    private static final int SLOTS = 2;
    private static final int[] LEAST = {1, 0, 0, 1};
    private static final int[] MOST = {8, 9, 99, 4};

    private final Clerk clerk = new Clerk();
    // What-if calls run on this copy, so that no call has to make a new one.
    private final Clerk trial = new Clerk();
    private final History history = new History();
    private final Pad pad = new Pad();
    private final Clerk[] slots = {new Clerk(), new Clerk()};
    private final boolean[] saved = new boolean[SLOTS];

    public PegClerks() {
    }

    // ---- changes

    public int set(int setting, int value) {
        if (setting < 0 || setting >= SETTINGS || value < LEAST[setting] || value > MOST[setting]) {
            return BAD_VALUE;
        }
        history.keep(clerk);
        int previous = clerk.settings[setting];
        clerk.settings[setting] = value;
        return previous;
    }

    public int peg(int row, int place) {
        if (!isRow(row) || !isPlace(place)) {
            return NO_SUCH;
        }
        history.keep(clerk);
        clerk.drum.giveRow(row, clerk.drum.rows[row] ^ (1 << place));
        return clerk.drum.pegsInRow(row);
    }

    public int order(int stamps) {
        if (stamps < 0 || stamps >= SETS) {
            return BAD_VALUE;
        }
        history.keep(clerk);
        int previous = clerk.order;
        clerk.order = stamps;
        return previous;
    }

    public int ink(int stamp) {
        if (!isPlace(stamp)) {
            return NO_SUCH;
        }
        history.keep(clerk);
        int more = FULL_INK - clerk.stamps.inks[stamp];
        clerk.stamps.inks[stamp] = FULL_INK;
        return more;
    }

    public int step(int steps) {
        if (steps < 1 || steps > MOST_STEPS_A_CALL) {
            return BAD_VALUE;
        }
        if (clerk.jammed) {
            return NOT_POSSIBLE;
        }
        if (clerk.steps + steps > MOST_STEPS_SO_FAR) {
            return TOO_MANY;
        }
        history.keep(clerk);
        return clerk.makeSteps(steps);
    }

    public int free() {
        if (!clerk.jammed) {
            return NOT_POSSIBLE;
        }
        history.keep(clerk);
        int jammedRow = clerk.drum.at;
        clerk.jammed = false;
        clerk.drum.goOn();
        return jammedRow;
    }

    public int newForm() {
        history.keep(clerk);
        int had = clerk.formStamps;
        clerk.layForm();
        return had;
    }

    public int read() {
        if (pad.firstFault() != NONE) {
            return BAD_TEXT;
        }
        history.keep(clerk);
        pad.changeRows(clerk.drum);
        pad.empty();
        return clerk.drum.allPegs();
    }

    // ---- what there is; nothing changes

    public int row(int row, int what) {
        if (!isRow(row)) {
            return NO_SUCH;
        }
        switch (what) {
            case 0: return clerk.drum.rows[row];
            case 1: return clerk.drum.pegsInRow(row);
            case 2: return asNumber(clerk.wouldJamAt(row));
            case 3: return Math.floorMod(row - clerk.drum.at, ROWS);
            default: return BAD_VALUE;
        }
    }

    public int stamped(int row, int place) {
        if (!isRow(row) || !isPlace(place)) {
            return NO_SUCH;
        }
        return clerk.drum.hasPeg(row, place) ? clerk.drum.stampings[row * PLACES + place] : NONE;
    }

    public int stamp(int stamp, int what) {
        if (!isPlace(stamp)) {
            return NO_SUCH;
        }
        switch (what) {
            case 0: return clerk.stamps.inks[stamp];
            case 1: return clerk.stamps.marks[stamp];
            case 2: return clerk.stamps.dryFalls[stamp];
            case 3: return clerk.drum.pegsAtPlace(stamp);
            case 4: return clerk.stamps.spoilings[stamp];
            default: return BAD_VALUE;
        }
    }

    public int count(int what) {
        if (what >= 0 && what < SETTINGS) {
            return clerk.settings[what];
        }
        switch (what) {
            case 4: return clerk.drum.at;
            case 5: return asNumber(clerk.jammed);
            case 6: return clerk.order;
            case 7: return clerk.formStamps;
            case 8: return asNumber(clerk.formSpoiled);
            case 9: return clerk.formSteps;
            case 10: return clerk.steps;
            case 11: return clerk.rightForms;
            case 12: return clerk.wrongForms;
            case 13: return clerk.spoiledForms;
            case 14: return clerk.jams;
            case 15: return clerk.drum.allPegs();
            case 16: return clerk.drum.fallenOut;
            case 17: return clerk.stamps.allMarks();
            case 18: return pad.length;
            case 19: return history.kept;
            default: return BAD_VALUE;
        }
    }

    // ---- what if; nothing changes

    public int untilJam() {
        trial.copyFrom(clerk);
        int done = trial.makeSteps(MOST_STEPS_AHEAD);
        return trial.jammed ? done : NONE;
    }

    public int ifStepped(int steps, int what) {
        if (steps < 1 || steps > MOST_STEPS_AHEAD || what < 0 || what > 4) {
            return BAD_VALUE;
        }
        trial.copyFrom(clerk);
        int done = trial.makeSteps(steps);
        switch (what) {
            case 0: return done;
            case 1: return trial.rightForms - clerk.rightForms;
            case 2: return trial.wrongForms - clerk.wrongForms;
            case 3: return trial.spoiledForms - clerk.spoiledForms;
            default: return trial.stamps.allMarks() - clerk.stamps.allMarks();
        }
    }

    public int bestOut() {
        int best = NONE;
        int mostRight = ifStepped(STEPS_OF_BEST_OUT, 1);
        for (int row = 0; row < ROWS; row++) {
            for (int place = 0; place < PLACES; place++) {
                if (clerk.drum.hasPeg(row, place)) {
                    int right = rightWithRow(row, clerk.drum.rows[row] ^ (1 << place));
                    if (right > mostRight) {
                        mostRight = right;
                        best = row * PLACES + place;
                    }
                }
            }
        }
        return best;
    }

    public int nextStamps(int way) {
        if (way == 0) {
            return nextStampsByStep();
        }
        return way == 1 ? nextStampsByPegs() : BAD_VALUE;
    }

    // ---- texts

    public int put(long characters) {
        int many = Pad.charactersIn(characters);
        if (many == 0) {
            return BAD_VALUE;
        }
        if (pad.length + many > Pad.ROOM) {
            return TOO_MANY;
        }
        pad.append(characters, many);
        return pad.length;
    }

    public int wipe() {
        int had = pad.length;
        pad.empty();
        return had;
    }

    public int fault() {
        return pad.firstFault();
    }

    // ---- undo, saving

    public int undo() {
        if (history.kept == 0) {
            return NOT_POSSIBLE;
        }
        history.takeBack(clerk);
        return history.kept;
    }

    public int save(int slot) {
        if (slot < 0 || slot >= SLOTS) {
            return BAD_VALUE;
        }
        slots[slot].copyFrom(clerk);
        saved[slot] = true;
        return clerk.drum.allPegs();
    }

    public int restore(int slot) {
        if (slot < 0 || slot >= SLOTS) {
            return BAD_VALUE;
        }
        if (!saved[slot]) {
            return NOT_POSSIBLE;
        }
        history.keep(clerk);
        clerk.copyFrom(slots[slot]);
        return clerk.drum.allPegs();
    }

    // ---- helpers

    private static boolean isRow(int row) {
        return row >= 0 && row < ROWS;
    }

    private static boolean isPlace(int place) {
        return place >= 0 && place < PLACES;
    }

    private static int asNumber(boolean yes) {
        return yes ? 1 : 0;
    }

    /** How many forms would be right in the steps that bestOut looks at, if a row had just these pegs. */
    private int rightWithRow(int row, int pegs) {
        trial.copyFrom(clerk);
        trial.drum.giveRow(row, pegs);
        trial.makeSteps(STEPS_OF_BEST_OUT);
        return trial.rightForms - clerk.rightForms;
    }

    private int nextStampsByStep() {
        int fallen = 0;
        int row = clerk.drum.at;
        for (int done = 0; done < clerk.settings[FORM]; done++) {
            for (int place = 0; place < PLACES; place++) {
                if (clerk.drum.hasPeg(row, place)) {
                    fallen |= 1 << place;
                }
            }
            row = Drum.rowBehind(row);
        }
        return fallen;
    }

    private int nextStampsByPegs() {
        int together = 0;
        for (int ahead = 0; ahead < clerk.settings[FORM]; ahead++) {
            together |= clerk.drum.rows[Math.floorMod(clerk.drum.at + ahead, ROWS)];
        }
        return together;
    }

    /** All that undo, save and restore bring back: everything but the pad, the slots and the history. */
    private static final class Clerk {
        final int[] settings = {4, 1, 0, 1};
        final Drum drum = new Drum();
        final Stamps stamps = new Stamps();
        boolean jammed;
        int order;
        int formStamps;
        boolean formSpoiled;
        int formSteps;
        int steps;
        int rightForms;
        int wrongForms;
        int spoiledForms;
        int jams;

        void copyFrom(Clerk other) {
            System.arraycopy(other.settings, 0, settings, 0, SETTINGS);
            drum.copyFrom(other.drum);
            stamps.copyFrom(other.stamps);
            jammed = other.jammed;
            order = other.order;
            formStamps = other.formStamps;
            formSpoiled = other.formSpoiled;
            formSteps = other.formSteps;
            steps = other.steps;
            rightForms = other.rightForms;
            wrongForms = other.wrongForms;
            spoiledForms = other.spoiledForms;
            jams = other.jams;
        }

        boolean wouldJamAt(int row) {
            return drum.pegsInRow(row) > settings[DOUBLES];
        }

        /** Makes so many steps, or those up to a jam, and tells how many. */
        int makeSteps(int many) {
            int done = 0;
            while (done < many && makeOneStep()) {
                done++;
            }
            return done;
        }

        /** Tells whether the step is done: one that jams is none. */
        boolean makeOneStep() {
            if (jammed) {
                return false;
            }
            if (wouldJamAt(drum.at)) {
                jammed = true;
                jams++;
                return false;
            }
            letStampsFall(drum.rows[drum.at]);
            drum.goOn();
            steps++;
            formSteps++;
            if (formSteps >= settings[FORM]) {
                finishForm();
            }
            return true;
        }

        void letStampsFall(int pegs) {
            for (int place = 0; place < PLACES; place++) {
                if (((pegs >> place) & 1) != 0) {
                    letStampFall(place);
                    drum.wearPeg(drum.at, place, settings[LIFE]);
                }
            }
        }

        void letStampFall(int place) {
            if (((formStamps >> place) & 1) != 0) {
                formSpoiled = true;
                stamps.spoilings[place]++;
            }
            if (stamps.leavesMark(place, settings[INK])) {
                formStamps |= 1 << place;
            }
        }

        void finishForm() {
            if (formSpoiled) {
                spoiledForms++;
            } else if (formStamps == order) {
                rightForms++;
            } else {
                wrongForms++;
            }
            layForm();
        }

        void layForm() {
            formStamps = 0;
            formSpoiled = false;
            formSteps = 0;
        }
    }

    /** The rows of pegs, how often each peg has stamped, and the row at which the drum stands. */
    private static final class Drum {
        final int[] rows = new int[ROWS];
        final int[] stampings = new int[ROWS * PLACES];
        int at;
        int fallenOut;

        void copyFrom(Drum other) {
            System.arraycopy(other.rows, 0, rows, 0, ROWS);
            System.arraycopy(other.stampings, 0, stampings, 0, ROWS * PLACES);
            at = other.at;
            fallenOut = other.fallenOut;
        }

        static int rowBehind(int row) {
            return row >= ROWS - 1 ? 0 : row + 1;
        }

        void goOn() {
            at = rowBehind(at);
        }

        boolean hasPeg(int row, int place) {
            return ((rows[row] >> place) & 1) != 0;
        }

        int pegsInRow(int row) {
            return Integer.bitCount(rows[row]);
        }

        int pegsAtPlace(int place) {
            int pegs = 0;
            for (int row = 0; row < ROWS; row++) {
                if (hasPeg(row, place)) {
                    pegs++;
                }
            }
            return pegs;
        }

        int allPegs() {
            int pegs = 0;
            for (int row = 0; row < ROWS; row++) {
                pegs += pegsInRow(row);
            }
            return pegs;
        }

        /** Gives a row just these pegs: those that it has already stay as they are. */
        void giveRow(int row, int pegs) {
            for (int place = 0; place < PLACES; place++) {
                if (!hasPeg(row, place)) {
                    // The number of a peg that stood here before must not pass to the new one.
                    stampings[row * PLACES + place] = 0;
                }
            }
            rows[row] = pegs;
        }

        void wearPeg(int row, int place, int life) {
            int peg = row * PLACES + place;
            stampings[peg]++;
            if (life != 0 && stampings[peg] >= life) {
                rows[row] &= ~(1 << place);
                fallenOut++;
            }
        }
    }

    /** The ink of the stamps, and what their falls have brought so far. */
    private static final class Stamps {
        final int[] inks = {FIRST_INK, FIRST_INK, FIRST_INK, FIRST_INK, FIRST_INK, FIRST_INK};
        final int[] marks = new int[PLACES];
        final int[] dryFalls = new int[PLACES];
        final int[] spoilings = new int[PLACES];

        void copyFrom(Stamps other) {
            System.arraycopy(other.inks, 0, inks, 0, PLACES);
            System.arraycopy(other.marks, 0, marks, 0, PLACES);
            System.arraycopy(other.dryFalls, 0, dryFalls, 0, PLACES);
            System.arraycopy(other.spoilings, 0, spoilings, 0, PLACES);
        }

        /** Takes the ink for a mark, if there is enough, and tells whether there was. */
        boolean leavesMark(int stamp, int ink) {
            if (inks[stamp] < ink) {
                dryFalls[stamp]++;
                return false;
            }
            inks[stamp] -= ink;
            marks[stamp]++;
            return true;
        }

        int allMarks() {
            int all = 0;
            for (int stamp = 0; stamp < PLACES; stamp++) {
                all += marks[stamp];
            }
            return all;
        }
    }

    /** The latest states before changes: a ring, so that the oldest one drops out by itself. */
    private static final class History {
        static final int MOST_KEPT = 6;
        final Clerk[] states = {new Clerk(), new Clerk(), new Clerk(), new Clerk(), new Clerk(), new Clerk()};
        int next;
        int kept;

        void keep(Clerk clerk) {
            states[next].copyFrom(clerk);
            next = next >= MOST_KEPT - 1 ? 0 : next + 1;
            kept = Math.min(kept + 1, MOST_KEPT);
        }

        void takeBack(Clerk clerk) {
            next = next == 0 ? MOST_KEPT - 1 : next - 1;
            kept--;
            clerk.copyFrom(states[next]);
        }
    }

    /** The text of drum rows that is being written. */
    private static final class Pad {
        static final int ROOM = 60;
        static final int LEAST_CODE = 33;
        static final int MOST_CODE = 126;

        // What may come next while a text is read.
        static final int BROKEN = -1;
        static final int NUMBER_DUE = 0;
        static final int FIVE_OR_COLON_DUE = 1;
        static final int COLON_DUE = 2;
        // This and above: a place, of this much less PLACES_DUE or more, or the next row.
        static final int PLACES_DUE = 3;

        final char[] signs = new char[ROOM];
        int length;

        /** How many characters the number tells; 0 if it tells none, or not as it should. */
        static int charactersIn(long characters) {
            long above = characters;
            int many = 0;
            while (many < 8 && (above & 255L) != 0) {
                int code = (int) (above & 255L);
                if (code < LEAST_CODE || code > MOST_CODE) {
                    return 0;
                }
                above >>>= 8;
                many++;
            }
            return above == 0 ? many : 0;
        }

        void append(long characters, int many) {
            for (int behind = 0; behind < many; behind++) {
                signs[length + many - 1 - behind] = (char) ((characters >>> (8 * behind)) & 255L);
            }
            length += many;
        }

        void empty() {
            length = 0;
        }

        /** The index of the first sign that cannot stand, the length if the text ends too early, or NONE. */
        int firstFault() {
            int due = NUMBER_DUE;
            for (int i = 0; i < length; i++) {
                due = dueBehind(due, signs[i]);
                if (due == BROKEN) {
                    return i;
                }
            }
            return due >= PLACES_DUE ? NONE : length;
        }

        static int dueBehind(int due, char sign) {
            switch (due) {
                case NUMBER_DUE:
                    if (sign == '1') {
                        return FIVE_OR_COLON_DUE;
                    }
                    return sign >= '0' && sign <= '9' ? COLON_DUE : BROKEN;
                case FIVE_OR_COLON_DUE:
                    if (sign >= '0' && sign <= '5') {
                        return COLON_DUE;
                    }
                    return sign == ':' ? PLACES_DUE : BROKEN;
                case COLON_DUE:
                    return sign == ':' ? PLACES_DUE : BROKEN;
                default:
                    return dueBehindPlaces(due - PLACES_DUE, sign);
            }
        }

        static int dueBehindPlaces(int leastPlace, char sign) {
            if (sign == ';') {
                return NUMBER_DUE;
            }
            int place = sign - '0';
            return isPlace(place) && place >= leastPlace ? PLACES_DUE + place + 1 : BROKEN;
        }

        /** Changes the rows one by one, as a row may be told twice; the text has no fault. */
        void changeRows(Drum drum) {
            int row = 0;
            int pegs = 0;
            boolean inPlaces = false;
            for (int i = 0; i <= length; i++) {
                if (i == length || signs[i] == ';') {
                    if (isRow(row)) {
                        drum.giveRow(row, pegs);
                    }
                    row = 0;
                    pegs = 0;
                    inPlaces = false;
                } else if (signs[i] == ':') {
                    inPlaces = true;
                } else if (inPlaces) {
                    pegs |= 1 << (signs[i] - '0');
                } else {
                    row = row * 10 + signs[i] - '0';
                }
            }
        }
    }
}
