/** The edges of the sentences on texts, and of promises 9 and 18 to 20: a method for each sentence. */
public final class TextsEdgesTest {
    private static final int BAD_VALUE = PegClerks.BAD_VALUE;
    private static final int BAD_TEXT = PegClerks.BAD_TEXT;
    private static final int TOO_MANY = PegClerks.TOO_MANY;
    private static final int NONE = PegClerks.NONE;
    private static final String DIGITS = "0123456789";

    public static void main(String[] args) {
        putAppends();
        lowestBitsAreTheLast();
        noCharacter();
        codesFrom33To126();
        codesAtEachPlace();
        bitsAboveBitsThatAre0();
        oneToEightCharacters();
        longerThan60();
        badValueAheadOfTooMany();
        wipeOfAnyLength();
        rowsOneByOne();
        numberFrom0To15();
        eachCharacterWhereItCanStand();
        placesEachAboveTheOneBefore();
        allSetsOfPlaces();
        theFirstCharacterThatCannotStand();
        textThatEndsTooEarly();
        emptyText();
        fullPad();
        faultChangesNothing();
        justThePegsThatAreTold();
        staysAsItIs();
        toldTwiceChangedTwice();
        readEmptiesThePad();
        readOfAFault();
        readWhenJammed();
        Checks.end();
    }

    private static void about(String sentence) {
        Checks.about(sentence);
    }

    private static void due(String what, long got, long want) {
        Checks.due(what, got, want);
    }

    private static PegClerks withPad(String text) {
        PegClerks clerk = new PegClerks();
        Checks.write(clerk, text);
        return clerk;
    }

    private static void faultOf(String text, int want) {
        due("fault of " + text, withPad(text).fault(), want);
    }

    // ---- promise 18

    private static void putAppends() {
        about("Appends characters to the pad; returns the length of the pad then");
        PegClerks x = new PegClerks();
        due("the first", x.put('1'), 1);
        due("behind it", x.put(Checks.packed("5:0")), 4);
        due("behind these", x.put(Checks.packed("5;0:1234")), 12);
        due("read", x.read(), 6);
        due("row 15", x.row(15, 0), 33);
        due("row 0", x.row(0, 0), 30);
        due("the first of an empty pad again", x.put('1'), 1);
    }

    private static void lowestBitsAreTheLast() {
        about("its lowest 8 bits are the last character, the next 8 bits the one before, and so on");
        PegClerks x = new PegClerks();
        due("put of 12:01", x.put(0x31323A3031L), 5);
        due("read", x.read(), 2);
        due("row 12", x.row(12, 0), 3);
        due("put of eight", x.put(0x373A303132333435L), 8);
        due("read then", x.read(), 8);
        due("row 7", x.row(7, 0), 63);
    }

    private static void noCharacter() {
        about("BAD_VALUE if there is no character");
        PegClerks x = new PegClerks();
        due("put(0)", x.put(0L), BAD_VALUE);
        due("length", x.count(18), 0);
        x.put('1');
        due("put(0) behind one", x.put(0L), BAD_VALUE);
        due("length behind one", x.count(18), 1);
        for (int bit = 8; bit < 64; bit++) {
            due("no character, but bit " + bit, x.put(1L << bit), BAD_VALUE);
        }
        due("the length stays", x.count(18), 1);
    }

    private static void codesFrom33To126() {
        about("BAD_VALUE if a code is not 33 to 126");
        PegClerks x = new PegClerks();
        for (int code = 1; code <= 255; code++) {
            boolean good = code >= 33 && code <= 126;
            due("put of code " + code, x.put(code), good ? 1 : BAD_VALUE);
            if (good) {
                x.wipe();
            }
        }
        due("length", x.count(18), 0);
    }

    private static void codesAtEachPlace() {
        about("a code is not 33 to 126, at each place of the eight");
        int[] codes = {1, 32, 33, 126, 127, 128, 255};
        PegClerks x = new PegClerks();
        for (int place = 0; place < 8; place++) {
            for (int code : codes) {
                long among = 0x3131313131313131L & ~(255L << 8 * place) | (long) code << 8 * place;
                boolean good = code >= 33 && code <= 126;
                due("code " + code + " at place " + place + " from behind", x.put(among), good ? 8 : BAD_VALUE);
                x.wipe();
            }
        }
    }

    private static void bitsAboveBitsThatAre0() {
        about("8 bits that are 0 mean that there are no more characters, and everything above them has to be 0, too");
        PegClerks x = new PegClerks();
        for (int many = 1; many <= 6; many++) {
            long characters = 0x3131313131313131L >>> 64 - 8 * many;
            for (int bit = 8 * many + 8; bit < 64; bit++) {
                due(many + " characters and bit " + bit, x.put(characters | 1L << bit), BAD_VALUE);
            }
            due(many + " characters and characters above", x.put(characters | 0x3131L << 8 * many + 8), BAD_VALUE);
        }
        due("length", x.count(18), 0);
        due("nothing above", x.put(0x31313131313131L), 7);
    }

    private static void oneToEightCharacters() {
        about("characters: 1 to 8 characters");
        PegClerks x = new PegClerks();
        int length = 0;
        for (int many = 1; many <= 8; many++) {
            length += many;
            due("put of " + many, x.put(0x7E7E7E7E7E7E7E7EL >>> 64 - 8 * many), length);
        }
    }

    private static void longerThan60() {
        about("TOO_MANY if the pad would be longer than 60");
        for (int many = 1; many <= 8; many++) {
            long characters = 0x3131313131313131L >>> 64 - 8 * many;
            PegClerks x = new PegClerks();
            for (int length = 1; length <= 61 - many; length++) {
                x.put('!');
            }
            due(many + " behind " + (61 - many), x.put(characters), TOO_MANY);
            due("the length stays", x.count(18), 61 - many);
            x.wipe();
            for (int length = 1; length <= 60 - many; length++) {
                x.put('!');
            }
            due(many + " behind " + (60 - many), x.put(characters), 60);
            due("a full pad", x.count(18), 60);
            due("no more", x.put('1'), TOO_MANY);
        }
    }

    private static void badValueAheadOfTooMany() {
        about("put: the first error that applies is returned");
        PegClerks x = withPad("0:;0:;0:;0:;0:;0:;0:;0:;0:;0:;0:;0:;0:;0:;0:;0:;0:;0:;0:;012");
        due("a good one", x.put('1'), TOO_MANY);
        due("no character", x.put(0L), BAD_VALUE);
        due("a bad code", x.put(32), BAD_VALUE);
        due("a bad code among good ones", x.put(0x317F31L), BAD_VALUE);
        due("a bit above 8 bits that are 0", x.put(0x310031L), BAD_VALUE);
        due("length", x.count(18), 60);
        due("no change", x.count(19), 0);
    }

    // ---- promise 19

    private static void wipeOfAnyLength() {
        about("Empties the pad, and returns the length that it had");
        PegClerks x = new PegClerks();
        due("an empty one", x.wipe(), 0);
        String text = "0:;0:;0:;0:;0:;0:;0:;0:;0:;0:;0:;0:;0:;0:;0:;0:;0:;0:;0:;012";
        for (int length = 0; length <= 60; length += 12) {
            Checks.write(x, text.substring(0, length));
            due("wipe() of " + length, x.wipe(), length);
            due("length", x.count(18), 0);
            due("again", x.wipe(), 0);
            due("fault", x.fault(), 0);
        }
        due("it is no change", x.count(19), 0);
        PegClerks y = withPad("7:0");
        y.wipe();
        Checks.write(y, "9:1");
        due("what was wiped is not read", y.read(), 1);
        due("row 7", y.row(7, 0), 0);
    }

    // ---- texts

    private static void rowsOneByOne() {
        about("text = row { \";\" row }");
        faultOf("0:", NONE);
        faultOf("0:;1:", NONE);
        faultOf("0:;1:;2:", NONE);
        faultOf(";", 0);
        faultOf(";0:", 0);
        faultOf("0:;", 3);
        faultOf("0:;;", 3);
        faultOf("0:;;1:", 3);
        faultOf("0:1:", 3);
        faultOf("0:01:", 4);
        faultOf("0::", 2);
        faultOf("0:0:", 3);
        faultOf("0;1:", 1);
        faultOf("10;1:", 2);
        faultOf("0:0,1:", 3);
    }

    private static void numberFrom0To15() {
        about("a number is 0 to 15 without leading zeros");
        for (int number = 0; number <= 15; number++) {
            PegClerks x = withPad(number + ":0");
            due("fault of " + number, x.fault(), NONE);
            due("read of " + number, x.read(), 1);
            due("row " + number, x.row(number, 0), 1);
            faultOf("0:;" + number + ":0", NONE);
            faultOf("0" + number + ":0", 1);
            faultOf("00" + number + ":0", 1);
        }
        for (int number = 16; number <= 199; number++) {
            // 100 to 159 begin as 10 to 15 do.
            int fault = number >= 100 && number <= 159 ? 2 : 1;
            faultOf(number + ":0", fault);
            faultOf("9:5;" + number + ":0", 4 + fault);
        }
        faultOf("200:", 1);
        faultOf("-1:", 0);
        faultOf("+1:", 0);
        faultOf(":", 0);
        faultOf("0:;:", 3);
    }

    /** What can stand behind the start of a text, and nothing else of all that a pad can have. */
    private static void allowedBehind(String start, String allowed) {
        PegClerks x = new PegClerks();
        boolean inPlaces = start.lastIndexOf(':') > start.lastIndexOf(';');
        for (int code = 33; code <= 126; code++) {
            if (!start.isEmpty()) {
                x.put(Checks.packed(start));
            }
            x.put(code);
            boolean whole = code == ':' || inPlaces && code != ';';
            int want = allowed.indexOf(code) < 0 ? start.length() : whole ? NONE : start.length() + 1;
            due("fault of " + start + (char) code, x.fault(), want);
            x.wipe();
        }
    }

    private static void eachCharacterWhereItCanStand() {
        about("the first character that cannot stand at its place");
        for (String before : new String[] {"", "0:;", "3:5;", "12:0;"}) {
            allowedBehind(before, DIGITS);
            for (char digit : DIGITS.toCharArray()) {
                allowedBehind(before + digit, digit == '1' ? "012345:" : ":");
            }
            for (int number = 10; number <= 15; number++) {
                allowedBehind(before + number, ":");
            }
        }
        for (String number : new String[] {"0:", "9:", "15:", "0:;1:"}) {
            allowedBehind(number, "012345;");
            for (int place = 0; place <= 5; place++) {
                allowedBehind(number + place, "012345".substring(place + 1) + ";");
            }
        }
        allowedBehind("1:01", "2345;");
        allowedBehind("1:01234", "5;");
        allowedBehind("1:12345", ";");
        allowedBehind("1:05", ";");
    }

    private static void placesEachAboveTheOneBefore() {
        about("places are digits 0 to 5, each above the one before");
        for (int one = 0; one <= 9; one++) {
            faultOf("11:" + one, one <= 5 ? NONE : 3);
            for (int two = 0; two <= 9; two++) {
                faultOf("11:" + one + two, one > 5 ? 3 : two > 5 || two <= one ? 4 : NONE);
            }
        }
        faultOf("2:012345", NONE);
        faultOf("2:0123456", 8);
        faultOf("2:0123455", 8);
        faultOf("2:0123450", 8);
        faultOf("2:0122", 5);
        faultOf("2:5;3:0", NONE);
        faultOf("2:5;3:5", NONE);
        faultOf("2:5;3:50", 7);
    }

    private static void allSetsOfPlaces() {
        about("row = number \":\" { place }: from none to all six");
        for (int set = 0; set < 64; set++) {
            StringBuilder text = new StringBuilder("14:");
            for (int place = 0; place < 6; place++) {
                if ((set >> place & 1) == 1) {
                    text.append(place);
                }
            }
            PegClerks x = withPad(text.toString());
            due("fault of " + text, x.fault(), NONE);
            due("read of " + text, x.read(), Integer.bitCount(set));
            due("row 14 by " + text, x.row(14, 0), set);
        }
    }

    private static void theFirstCharacterThatCannotStand() {
        about("The fault is the index of the first character that cannot stand at its place");
        faultOf("x", 0);
        faultOf("xx", 0);
        faultOf("0x:x", 1);
        faultOf("0:x;x", 2);
        faultOf("0:0;x:x", 4);
        faultOf("16:77", 1);
        faultOf("10:77", 3);
        PegClerks x = withPad("0:0");
        x.put('x');
        due("the first", x.fault(), 3);
        x.put('y');
        due("stays the first", x.fault(), 3);
        x.put(Checks.packed(";1:"));
        due("whatever comes behind", x.fault(), 3);
    }

    private static void textThatEndsTooEarly() {
        about("if there is none and the text ends too early, it is the length of the text");
        String text = "0:;1:0;10:;15:012345;3:24;12:5";
        PegClerks x = new PegClerks();
        for (int length = 1; length <= text.length(); length++) {
            String start = text.substring(0, length);
            x.put(text.charAt(length - 1));
            boolean whole = start.lastIndexOf(':') > start.lastIndexOf(';');
            due("fault of " + start, x.fault(), whole ? NONE : length);
        }
        due("read", x.read(), 10);
    }

    private static void emptyText() {
        about("(also if it is empty)");
        PegClerks x = new PegClerks();
        due("fault", x.fault(), 0);
        due("read", x.read(), BAD_TEXT);
        due("no change", x.count(19), 0);
        Checks.write(x, "0:0");
        x.wipe();
        due("fault of a wiped one", x.fault(), 0);
        Checks.write(x, "0:0");
        x.read();
        due("fault behind read", x.fault(), 0);
        due("read behind read", x.read(), BAD_TEXT);
    }

    private static void fullPad() {
        about("The pad is a text of at most 60 characters");
        String all = "0:0;1:1;2:2;3:3;4:4;5:5;6:;7:;8:;9:;10:;11:;12:;13:;14:;15:0";
        due("a text of 60", all.length(), 60);
        PegClerks x = withPad(all);
        due("fault", x.fault(), NONE);
        due("no character more", x.put('1'), TOO_MANY);
        due("read", x.read(), 7);
        for (int row = 0; row < 16; row++) {
            due("row " + row, x.row(row, 0), row < 6 ? 1 << row : row == 15 ? 1 : 0);
        }
        String start = all.substring(0, 59);
        faultOf(start + "6", 59);
        faultOf(start + ":", 59);
        faultOf(start + ";", 60);
        faultOf(start + "5", NONE);
        faultOf(start, NONE);
        faultOf(all.substring(0, 58), 58);
    }

    // ---- promise 20

    private static void faultChangesNothing() {
        about("Returns the fault of the pad, NONE if there is none");
        for (String text : new String[] {"", "0", "0:", "0:01", "16"}) {
            PegClerks x = withPad(text);
            String before = Checks.state(x, true);
            int fault = x.fault();
            due("fault again of " + text, x.fault(), fault);
            Checks.sameState("nothing is different by fault", Checks.state(x, true), before);
            due("the drum is as it was", x.count(15), 0);
        }
    }

    // ---- promise 9

    private static void justThePegsThatAreTold() {
        about("each gets just the pegs that are told");
        PegClerks x = Checks.withDrum("0:012345;8:03;15:45");
        Checks.write(x, "15:;0:05");
        due("read", x.read(), 4);
        due("some of all", x.row(0, 0), 33);
        due("none", x.row(15, 0), 0);
        due("a row that is not told", x.row(8, 0), 9);
        Checks.write(x, "8:12");
        due("others", x.read(), 4);
        due("none of those before", x.row(8, 0), 6);
        Checks.write(x, "1:");
        due("none of none", x.read(), 4);
        due("is a change, though nothing is different", x.count(19), 4);
        due("none fell out", x.count(16), 0);
    }

    private static void staysAsItIs() {
        about("(those that it has then stay as they are)");
        PegClerks x = Checks.withDrum("0:01;1:23");
        x.set(PegClerks.DOUBLES, 2);
        x.step(17);
        Checks.write(x, "0:12;1:23");
        due("read", x.read(), 4);
        due("it stays", x.stamped(0, 1), 2);
        due("it is new", x.stamped(0, 2), 0);
        due("it is out", x.stamped(0, 0), NONE);
        due("the same row stays, 2", x.stamped(1, 2), 1);
        due("the same row stays, 3", x.stamped(1, 3), 1);
    }

    private static void toldTwiceChangedTwice() {
        about("a row that is told twice is changed twice");
        PegClerks x = Checks.withDrum("0:015");
        x.set(PegClerks.DOUBLES, 4);
        x.step(16);
        Checks.write(x, "0:12;0:023");
        due("read", x.read(), 3);
        due("as it is told the last time", x.row(0, 0), 13);
        due("out and in anew", x.stamped(0, 0), 0);
        due("in and out", x.stamped(0, 1), NONE);
        due("new both times", x.stamped(0, 2), 0);
        x.step(16);
        Checks.write(x, "0:0;1:5;0:03");
        due("read with another row between", x.read(), 3);
        due("in all the time", x.stamped(0, 0), 1);
        due("out and in anew, with another row between", x.stamped(0, 3), 0);
        Checks.write(x, "0:1;0:");
        due("read of none at last", x.read(), 1);
        due("no peg", x.row(0, 0), 0);
        due("one change for each read", x.count(19), 6);
    }

    private static void readEmptiesThePad() {
        about("and empties the pad");
        PegClerks x = withPad("3:3");
        due("read", x.read(), 1);
        due("length", x.count(18), 0);
        due("wipe", x.wipe(), 0);
        due("undo", x.undo(), 0);
        due("the drum is as it was", x.count(15), 0);
        due("the pad stays empty", x.count(18), 0);
        Checks.write(x, "4:");
        due("the pad begins anew", x.count(18), 2);
    }

    private static void readOfAFault() {
        about("read: BAD_TEXT if the pad has a fault");
        for (String text : new String[] {"1", "1:0;", "0:0;16:", "0:0;1:00", "0:0;1:5;x", "0:;0:;0", "0:0;1:6"}) {
            PegClerks x = Checks.withDrum("0:5;1:4");
            x.step(2);
            Checks.write(x, text);
            String before = Checks.state(x, true);
            due("read of " + text, x.read(), BAD_TEXT);
            Checks.sameState("no row is changed, and the pad stays", Checks.state(x, true), before);
        }
    }

    private static void readWhenJammed() {
        about("read of a jammed clerk");
        PegClerks x = Checks.withDrum("0:01");
        x.step(1);
        Checks.write(x, "0:0");
        due("read", x.read(), 1);
        due("jammed still", x.count(5), 1);
        due("untilJam", x.untilJam(), 0);
        due("free", x.free(), 0);
        due("no jam then", x.untilJam(), NONE);
    }
}
