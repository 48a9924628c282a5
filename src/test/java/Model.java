import java.util.ArrayDeque;
import java.util.Deque;
import java.util.Map;
import java.util.TreeMap;
import java.util.TreeSet;
import java.util.regex.Matcher;
import java.util.regex.Pattern;

/** The document told once more, by the Java library and without regard to cost, to compare with. */
final class Model {
    private static final Pattern DRUM = Pattern.compile("(1[0-5]?|[02-9]):0?1?2?3?4?5?(;(1[0-5]?|[02-9]):0?1?2?3?4?5?)*");

    private static final class State {
        int[] settings = {4, 1, 0, 1};
        TreeMap<Integer, Integer> pegs = new TreeMap<>();
        int[] ink = {50, 50, 50, 50, 50, 50};
        int[] marks = new int[6];
        int[] dry = new int[6];
        int[] spoilings = new int[6];
        TreeSet<Integer> form = new TreeSet<>();
        // at, jammed, order, spoiled, lain, steps, right, wrong, spoiled forms, jams, fallen
        int[] numbers = new int[11];

        State copy() {
            State copy = new State();
            copy.settings = settings.clone();
            copy.pegs = new TreeMap<>(pegs);
            copy.ink = ink.clone();
            copy.marks = marks.clone();
            copy.dry = dry.clone();
            copy.spoilings = spoilings.clone();
            copy.form = new TreeSet<>(form);
            copy.numbers = numbers.clone();
            return copy;
        }

        TreeSet<Integer> places(int row) {
            TreeSet<Integer> places = new TreeSet<>();
            for (int peg : pegs.subMap(row * 6, row * 6 + 6).keySet()) {
                places.add(peg % 6);
            }
            return places;
        }

        int marksOfAll() {
            int all = 0;
            for (int of : marks) {
                all += of;
            }
            return all;
        }

        int go(int steps) {
            for (int done = 0; done < steps; done++) {
                if (numbers[1] == 1) {
                    return done;
                }
                TreeSet<Integer> falling = places(numbers[0]);
                if (falling.size() > settings[3]) {
                    numbers[1] = 1;
                    numbers[9]++;
                    return done;
                }
                for (int place : falling) {
                    if (form.contains(place)) {
                        numbers[3] = 1;
                        spoilings[place]++;
                    }
                    if (ink[place] >= settings[1]) {
                        ink[place] -= settings[1];
                        marks[place]++;
                        form.add(place);
                    } else {
                        dry[place]++;
                    }
                    int peg = numbers[0] * 6 + place;
                    pegs.merge(peg, 1, Integer::sum);
                    if (settings[2] > 0 && pegs.get(peg) >= settings[2]) {
                        pegs.remove(peg);
                        numbers[10]++;
                    }
                }
                numbers[0] = (numbers[0] + 1) % 16;
                numbers[5]++;
                if (++numbers[4] >= settings[0]) {
                    numbers[numbers[3] == 1 ? 8 : set(form) == numbers[2] ? 6 : 7]++;
                    form.clear();
                    numbers[3] = 0;
                    numbers[4] = 0;
                }
            }
            return steps;
        }
    }

    private State now = new State();
    private final Deque<State> past = new ArrayDeque<>();
    private final State[] slots = new State[2];
    private String pad = "";

    static int set(Iterable<Integer> places) {
        int mask = 0;
        for (int place : places) {
            mask |= 1 << place;
        }
        return mask;
    }

    private static boolean in(int number, int least, int most) {
        return least <= number && number <= most;
    }

    private void change() {
        past.addLast(now.copy());
        if (past.size() > 6) {
            past.removeFirst();
        }
    }

    int set(int setting, int value) {
        if (!in(setting, 0, 3)
            || !in(value, setting == 0 || setting == 3 ? 1 : 0, new int[] {8, 9, 99, 4}[setting])) {
            return -2;
        }
        change();
        int previous = now.settings[setting];
        now.settings[setting] = value;
        return previous;
    }

    int peg(int row, int place) {
        if (!in(row, 0, 15) || !in(place, 0, 5)) {
            return -1;
        }
        change();
        if (now.pegs.remove(row * 6 + place) == null) {
            now.pegs.put(row * 6 + place, 0);
        }
        return now.places(row).size();
    }

    int order(int stamps) {
        if (!in(stamps, 0, 63)) {
            return -2;
        }
        change();
        int previous = now.numbers[2];
        now.numbers[2] = stamps;
        return previous;
    }

    int ink(int stamp) {
        if (!in(stamp, 0, 5)) {
            return -1;
        }
        change();
        int before = now.ink[stamp];
        now.ink[stamp] = 99;
        return 99 - before;
    }

    int step(int steps) {
        if (!in(steps, 1, 200)) {
            return -2;
        }
        if (now.numbers[1] == 1) {
            return -5;
        }
        if (now.numbers[5] + steps > 99999) {
            return -4;
        }
        change();
        return now.go(steps);
    }

    int free() {
        if (now.numbers[1] == 0) {
            return -5;
        }
        change();
        int row = now.numbers[0];
        now.numbers[1] = 0;
        now.numbers[0] = (row + 1) % 16;
        return row;
    }

    int newForm() {
        change();
        int had = set(now.form);
        now.form.clear();
        now.numbers[3] = 0;
        now.numbers[4] = 0;
        return had;
    }

    int read() {
        if (fault() != -6) {
            return -3;
        }
        change();
        for (String row : pad.split(";")) {
            int number = Integer.parseInt(row.substring(0, row.indexOf(':')));
            String places = row.substring(row.indexOf(':') + 1);
            for (int place = 0; place < 6; place++) {
                if (places.indexOf('0' + place) < 0) {
                    now.pegs.remove(number * 6 + place);
                } else {
                    now.pegs.putIfAbsent(number * 6 + place, 0);
                }
            }
        }
        pad = "";
        return now.pegs.size();
    }

    int row(int row, int what) {
        if (!in(row, 0, 15)) {
            return -1;
        }
        switch (what) {
            case 0: return set(now.places(row));
            case 1: return now.places(row).size();
            case 2: return now.places(row).size() > now.settings[3] ? 1 : 0;
            case 3: return (row + 16 - now.numbers[0]) % 16;
            default: return -2;
        }
    }

    int stamped(int row, int place) {
        if (!in(row, 0, 15) || !in(place, 0, 5)) {
            return -1;
        }
        return now.pegs.getOrDefault(row * 6 + place, -6);
    }

    int stamp(int stamp, int what) {
        if (!in(stamp, 0, 5)) {
            return -1;
        }
        switch (what) {
            case 0: return now.ink[stamp];
            case 1: return now.marks[stamp];
            case 2: return now.dry[stamp];
            case 3: return (int) now.pegs.keySet().stream().filter(peg -> peg % 6 == stamp).count();
            case 4: return now.spoilings[stamp];
            default: return -2;
        }
    }

    int count(int what) {
        if (in(what, 0, 3)) {
            return now.settings[what];
        }
        if (in(what, 4, 6)) {
            return now.numbers[what - 4];
        }
        if (in(what, 8, 14)) {
            return now.numbers[what - 5];
        }
        switch (what) {
            case 7: return set(now.form);
            case 15: return now.pegs.size();
            case 16: return now.numbers[10];
            case 17: return now.marksOfAll();
            case 18: return pad.length();
            case 19: return past.size();
            default: return -2;
        }
    }

    int untilJam() {
        State then = now.copy();
        int done = then.go(500);
        return then.numbers[1] == 1 ? done : -6;
    }

    int ifStepped(int steps, int what) {
        if (!in(steps, 1, 500) || !in(what, 0, 4)) {
            return -2;
        }
        State then = now.copy();
        then.go(steps);
        return what == 4 ? then.marksOfAll() - now.marksOfAll() : then.numbers[5 + what] - now.numbers[5 + what];
    }

    int bestOut() {
        int best = -6;
        int most = ifStepped(64, 1);
        for (Map.Entry<Integer, Integer> peg : now.pegs.entrySet()) {
            State then = now.copy();
            then.pegs.remove(peg.getKey());
            then.go(64);
            if (then.numbers[6] - now.numbers[6] > most) {
                most = then.numbers[6] - now.numbers[6];
                best = peg.getKey();
            }
        }
        return best;
    }

    int nextStamps(int way) {
        if (!in(way, 0, 1)) {
            return -2;
        }
        State then = now.copy();
        then.settings = new int[] {8, 0, 0, 6};
        then.form.clear();
        then.numbers[4] = -8;
        then.numbers[1] = 0;
        then.go(now.settings[0]);
        return set(then.form);
    }

    int put(long characters) {
        String text = "";
        for (int shift = 56; shift >= 0; shift -= 8) {
            int code = (int) (characters >> shift) & 255;
            if (code != 0 && !in(code, 33, 126) || code == 0 && !text.isEmpty()) {
                return -2;
            }
            text += code == 0 ? "" : Character.toString((char) code);
        }
        if (text.isEmpty()) {
            return -2;
        }
        if (pad.length() + text.length() > 60) {
            return -4;
        }
        pad += text;
        return pad.length();
    }

    int wipe() {
        int had = pad.length();
        pad = "";
        return had;
    }

    /** A start of a text can go on if the pattern was still looking for more when it ended. */
    int fault() {
        for (int length = 1; length <= pad.length(); length++) {
            Matcher start = DRUM.matcher(pad.substring(0, length));
            if (!start.matches() && !start.hitEnd()) {
                return length - 1;
            }
        }
        return DRUM.matcher(pad).matches() ? -6 : pad.length();
    }

    int undo() {
        if (past.isEmpty()) {
            return -5;
        }
        now = past.removeLast();
        return past.size();
    }

    int save(int slot) {
        if (!in(slot, 0, 1)) {
            return -2;
        }
        slots[slot] = now.copy();
        return now.pegs.size();
    }

    int restore(int slot) {
        if (!in(slot, 0, 1)) {
            return -2;
        }
        if (slots[slot] == null) {
            return -5;
        }
        change();
        now = slots[slot].copy();
        return now.pegs.size();
    }
}
