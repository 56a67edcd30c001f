/** Boundaries that the section "Texts" and promises 21 to 24 name. */
final class BoundariesOfTexts implements Codes {
    private static final String NUMBER_LETTERS = "xwct", DIGIT_LETTERS = "pe";

    private BoundariesOfTexts() {
    }

    private static void fault(String text, int due) {
        PauseLexicons room = new PauseLexicons();
        Due.write(room, text);
        Due.is("fault of '" + text + "'", room.fault(), due);
    }

    private static int carryOut(PauseLexicons room, String text) {
        room.wipe();
        Due.write(room, text);
        return room.carryOut();
    }

    /** An empty, a short and a full pad of right texts. */
    private static PauseLexicons padOf(int length) {
        PauseLexicons room = Rooms.with(0, 5);
        Due.write(room, "t1;".repeat(27).substring(0, length));
        return room;
    }

    // ---- Texts

    @Sentence(of = "Texts", says = "The pad is a text of at most 80 characters")
    static void padOfAtMost80() {
        PauseLexicons room = padOf(79);
        Due.is("79 characters", room.count(13), 79);
        Due.is("the eightieth", room.put('2'), 80);
        Due.is("all of them are read", room.fault(), NONE);
        Due.is("one more", room.put('3'), TOO_MANY);
        Due.is("80 characters", room.count(13), 80);
        Due.is("27 orders", room.carryOut(), 27);
        Due.is("the last one of 2 seconds", room.count(0), 26 + 2);
    }

    @Sentence(of = "Texts", says = "\"g\": guest() at a table with a rank")
    static void orderGuest() {
        PauseLexicons room = new PauseLexicons();
        Due.is("the lowest and the highest", carryOut(room, "g0.1;g2.9"), 2);
        Due.is("table 0, rank 1", room.of(0, 0) * 10 + room.of(0, 1), 1);
        Due.is("table 2, rank 9", room.of(1, 0) * 10 + room.of(1, 1), 29);
        Due.is("table 3", carryOut(room, "g3.5"), 0);
        Due.is("table 9", carryOut(room, "g9.5"), 0);
        Due.is("rank 0", carryOut(room, "g1.0"), 0);
        Due.is("up to the tenth", carryOut(room, "g0.1;".repeat(9) + "g0.1"), 8);
        Due.is("the eleventh", carryOut(room, "g0.1"), 0);
        Due.is("ten guests", room.count(1), 1023);
    }

    @Sentence(of = "Texts", says = "\"x\": leave()")
    static void orderLeave() {
        PauseLexicons room = Rooms.full();
        Due.is("the lowest and the highest", carryOut(room, "x0;x9"), 2);
        Due.is("both have left", room.count(1), 1023 - 512 - 1);
        Due.is("has left", carryOut(room, "x9"), 0);
        Due.is("guest 10", carryOut(room, "x10"), 0);
        Due.is("guest 99", carryOut(room, "x99"), 0);
    }

    @Sentence(of = "Texts", says = "\"p\": pause() at a table; \"e\": close() it")
    static void orderPauseAndClose() {
        PauseLexicons room = Rooms.with(0, 5, 2, 5);
        Due.is("the lowest and the highest", carryOut(room, "p0;p2;t3;e0;e2"), 5);
        Due.is("both were meant", room.meaning(1, 0), 2);
        for (String refused : new String[] {"p1", "p3", "p9", "e0", "e1", "e3", "e9"}) {
            Due.is(refused, carryOut(room, refused), 0);
        }
        Due.is("a second one", carryOut(room, "p0;p0"), 1);
    }

    @Sentence(of = "Texts", says = "\"w\": word() of a guest; \"c\": cough() of a guest")
    static void orderWordAndCough() {
        PauseLexicons room = Rooms.full();
        Due.is("the lowest and the highest", carryOut(room, "p0;w0;p0;w9;p0;c0;p0;c9"), 8);
        Due.is("words", room.of(0, 5) * 10 + room.of(9, 5), 22);
        int[] ends = {2, 2, 1, 1};
        for (int rank = 0; rank < ends.length; rank++) {
            Due.is("end " + rank, room.end(rank, 0), ends[rank]);
        }
        for (String refused : new String[] {"w0", "w10", "w99", "c0", "c10", "c99"}) {
            Due.is(refused, carryOut(room, refused), 0);
        }
    }

    @Sentence(of = "Texts", says = "\"t\": pass() seconds")
    static void orderPass() {
        PauseLexicons room = new PauseLexicons();
        Due.is("0 seconds", carryOut(room, "t0"), 0);
        Due.is("1 and 99 seconds", carryOut(room, "t1;t99"), 2);
        Due.is("the time", room.count(0), 100);
        PauseLexicons late = new PauseLexicons();
        Rooms.pass(late, 9998);
        Due.is("up to the last time", carryOut(late, "t2;t1"), 0);
        Due.is("to the last time", carryOut(late, "t1;t1"), 1);
        Due.is("the last time", late.count(0), 9999);
    }

    @Sentence(of = "Texts", says = "A digit is 0 to 9")
    static void digits0To9() {
        for (char letter : DIGIT_LETTERS.toCharArray()) {
            fault(letter + "0", NONE);
            fault(letter + "9", NONE);
            fault(letter + "/", 1);
            fault(letter + ":", 1);
            fault(letter + "10", 2);
            fault(letter + "00", 2);
        }
        fault("g0.0", NONE);
        fault("g9.9", NONE);
        fault("g/.0", 1);
        fault("g:.0", 1);
        fault("g0./", 3);
        fault("g0.:", 3);
        fault("g10.0", 2);
        fault("g0.10", 4);
    }

    @Sentence(of = "Texts", says = "a number 0 to 99")
    static void numbers0To99() {
        for (char letter : NUMBER_LETTERS.toCharArray()) {
            for (int number = 0; number <= 99; number++) {
                fault(letter + String.valueOf(number), NONE);
            }
            fault(letter + "/", 1);
            fault(letter + ":", 1);
            fault(letter + "-1", 1);
            fault(letter + "1/", 2);
            fault(letter + "1:", 2);
            fault(letter + "99/", 3);
        }
    }

    @Sentence(of = "Texts", says = "without leading zeros")
    static void withoutLeadingZeros() {
        for (char letter : NUMBER_LETTERS.toCharArray()) {
            fault(letter + "0", NONE);
            fault(letter + "00", 2);
            fault(letter + "01", 2);
            fault(letter + "09", 2);
            fault(letter + "010", 2);
            fault(letter + "10", NONE);
            fault(letter + "0;" + letter + "0", NONE);
        }
    }

    @Sentence(of = "Texts",
        says = "The fault is the index of the first character that cannot stand at its place when the "
        + "text is read from left to right")
    static void faultIsTheFirstCharacter() {
        for (char code = 33; code <= 126; code++) {
            fault(String.valueOf(code), "gxpewct".indexOf(code) < 0 ? 0 : 1);
            fault("t1" + code, code == ';' ? 3 : code >= '0' && code <= '9' ? NONE : 2);
            fault("p1" + code, code == ';' ? 3 : 2);
        }
        fault("a;b", 0);
        fault("t1;;;", 3);
        fault("t1,t2", 2);
        fault("T1", 0);
        fault("t1;g", 4);
        fault("t1;g1", 5);
        fault("t1;g1;", 5);
        fault("p1p1", 2);
        fault("t1".repeat(40), 2);
        fault("t1;".repeat(26) + "t~", 79);
    }

    @Sentence(of = "Texts", says = "(also of a digit by which a number would be above 99)")
    static void faultIsTheDigitAbove99() {
        for (char letter : NUMBER_LETTERS.toCharArray()) {
            fault(letter + "99", NONE);
            fault(letter + "100", 3);
            fault(letter + "990", 3);
            fault(letter + "1000", 3);
            fault(letter + "12345678901", 3);
        }
    }

    @Sentence(of = "Texts", says = "if there is none and the text ends too early")
    static void faultIsTheLengthOfATextThatEndsTooEarly() {
        for (char letter : "gxpewct".toCharArray()) {
            fault(String.valueOf(letter), 1);
            fault("t1;" + letter, 4);
        }
        fault("g1", 2);
        fault("g1.", 3);
        fault("t1;", 3);
        fault("t99;", 4);
        fault("g1.1;", 5);
        fault("t1;".repeat(26), 78);
        fault("t1;".repeat(26) + "t", 79);
        fault("t1;".repeat(25) + "g1.1;", 80);
    }

    @Sentence(of = "Texts", says = "(also if it is empty), it is the length of the text")
    static void faultOfAnEmptyText() {
        fault("", 0);
        PauseLexicons room = padOf(2);
        room.wipe();
        Due.is("a wiped one", room.fault(), 0);
        Due.write(room, "t1");
        room.carryOut();
        Due.is("one that was carried out", room.fault(), 0);
    }

    @Sentence(of = "Texts",
        says = "`NO_SUCH = -1, BAD_VALUE = -2, BAD_TEXT = -3, TOO_MANY = -4, NOT_POSSIBLE = -5, NONE = "
        + "-6`: Error codes, and NONE: there is none.")
    static void codesAreTheConstants() {
        int[] codes = {PauseLexicons.NO_SUCH, PauseLexicons.BAD_VALUE, PauseLexicons.BAD_TEXT, PauseLexicons.TOO_MANY,
            PauseLexicons.NOT_POSSIBLE, PauseLexicons.NONE};
        for (int i = 0; i < codes.length; i++) {
            Due.is("code " + i, codes[i], -1 - i);
        }
        int[] settings = {PauseLexicons.SHORT, PauseLexicons.STEP, PauseLexicons.LEND, PauseLexicons.SHAME};
        for (int i = 0; i < settings.length; i++) {
            Due.is("setting " + i, settings[i], i);
        }
    }

    // ---- Promise 21: put

    /** How many characters are answered for, and that they stand there in that order. */
    private static void putIs(String text) {
        PauseLexicons room = new PauseLexicons();
        Due.is("put '" + text + "'", room.put(Due.packed(text)), text.length());
    }

    @Sentence(of = "Promise 21",
        says = "its lowest 8 bits are the last character, the next 8 bits the one before, and so "
        + "on")
    static void putLowestBitsAreTheLastCharacter() {
        PauseLexicons room = new PauseLexicons();
        room.put((long) 'g' << 24 | '2' << 16 | '.' << 8 | '7');
        Due.is("g2.7 is carried out", room.carryOut(), 1);
        Due.is("table 2, rank 7", room.of(0, 0) * 10 + room.of(0, 1), 27);
        room.put(Due.packed("t1;t20;t"));
        room.put(Due.packed("3"));
        Due.is("eight characters and one", room.carryOut(), 3);
        Due.is("in their order", room.count(0), 24);
    }

    @Sentence(of = "Promise 21", says = "8 bits that are 0 mean that there are no more characters")
    static void putNoMoreCharacters() {
        PauseLexicons room = new PauseLexicons();
        Due.is("one character", room.put('~'), 1);
        Due.is("two characters", room.put('~' << 8 | '~'), 3);
        Due.is("seven characters", room.put(Due.packed("~~~~~~~")), 10);
    }

    @Sentence(of = "Promise 21", says = "everything above them has to be 0, too")
    static void putEverythingAboveIs0() {
        for (int bit = 16; bit < 64; bit++) {
            int above = bit;
            Twins.refused("a character and bit " + above, BAD_VALUE, Rooms::evening, r -> r.put('t' | 1L << above));
        }
        for (int characters = 2; characters <= 6; characters++) {
            long all = Due.packed("tttttt".substring(0, characters));
            for (int bit = 8 * characters + 8; bit < 64; bit++) {
                Due.is("bit " + bit, new PauseLexicons().put(all | 1L << bit), BAD_VALUE);
            }
        }
    }

    @Sentence(of = "Promise 21", says = "`characters`: 1 to 8 characters")
    static void put1To8Characters() {
        for (int size = 1; size <= 8; size++) {
            putIs("!~!~!~!~".substring(0, size));
            putIs("~!~!~!~!".substring(0, size));
        }
    }

    @Sentence(of = "Promise 21", says = "Returns the length of the pad then")
    static void putReturnsTheLength() {
        PauseLexicons room = new PauseLexicons();
        for (int times = 1; times <= 10; times++) {
            Due.is("eight characters, times " + times, room.put(Due.packed("t1;t1;t1")), 8 * times);
        }
        room.wipe();
        Due.is("from the beginning", room.put('t'), 1);
    }

    @Sentence(of = "Promise 21", says = "BAD_VALUE if there is no character")
    static void putNoCharacter() {
        Twins.refused("put(0)", BAD_VALUE, Rooms::evening, r -> r.put(0));
        Twins.refused("put(0) on an empty pad", BAD_VALUE, PauseLexicons::new, r -> r.put(0));
        for (int bit = 8; bit < 64; bit++) {
            int above = bit;
            Twins.refused("nothing but bit " + bit, BAD_VALUE, Rooms::evening, r -> r.put(1L << above));
        }
        long withoutTheLast = Due.packed("ttttttt") << 8;
        Twins.refused("only the last one is missing", BAD_VALUE, Rooms::evening, r -> r.put(withoutTheLast));
    }

    @Sentence(of = "Promise 21", says = "a code is not 33 to 126")
    static void putCodeNot33To126() {
        for (int place = 0; place < 8; place++) {
            long others = Due.packed("tttttttt") & ~(255L << 8 * place);
            for (long code : new long[] {1, 31, 32, 127, 128, 129, 254, 255}) {
                long characters = others | code << 8 * place;
                Twins.refused("code " + code + " at " + place, BAD_VALUE, Rooms::evening, r -> r.put(characters));
            }
            for (long code : new long[] {33, 34, 125, 126}) {
                Due.is("code " + code + " at " + place, new PauseLexicons().put(others | code << 8 * place), 8);
            }
        }
        for (long code = 1; code <= 255; code++) {
            Due.is("code " + code, new PauseLexicons().put(code), code >= 33 && code <= 126 ? 1 : BAD_VALUE);
        }
    }

    @Sentence(of = "Promise 21", says = "or a bit above 8 bits that are 0 is not 0")
    static void putBitAbove() {
        for (int place = 1; place < 8; place++) {
            long gap = Due.packed("tttttttt") & ~(255L << 8 * place);
            Due.is("a gap at " + place, new PauseLexicons().put(gap), place == 7 ? 7 : BAD_VALUE);
        }
        Twins.refused("the sign alone", BAD_VALUE, Rooms::evening, r -> r.put(Long.MIN_VALUE));
        Twins.refused("the sign above seven and none", BAD_VALUE, Rooms::evening,
            r -> r.put(Due.packed("tttttt") | Long.MIN_VALUE));
        Twins.refused("the lowest bit above", BAD_VALUE, Rooms::evening, r -> r.put('t' | 1L << 16));
        Twins.refused("the highest long", BAD_VALUE, Rooms::evening, r -> r.put(Long.MAX_VALUE));
        Twins.refused("all bits", BAD_VALUE, Rooms::evening, r -> r.put(-1));
    }

    @Sentence(of = "Promise 21", says = "TOO_MANY if the pad would be longer than 80")
    static void putLongerThan80() {
        for (int size = 1; size <= 8; size++) {
            int length = 80 - size;
            long characters = Due.packed("tttttttt".substring(0, size));
            Due.is(size + " to 80", padOf(length).put(characters), 80);
            Twins.refused(size + " to 81", TOO_MANY, () -> padOf(length + 1), r -> r.put(characters));
            Twins.refused(size + " above a full one", TOO_MANY, () -> padOf(80), r -> r.put(characters));
        }
    }

    @Sentence(of = "Promise 21",
        says = "BAD_VALUE if there is no character, a code is not 33 to 126, or a bit above 8 bits "
        + "that are 0 is not 0; TOO_MANY if the pad would be longer than 80", order = true)
    static void putErrorsInTheirOrder() {
        Twins.refused("no character on a full pad", BAD_VALUE, () -> padOf(80), r -> r.put(0));
        Twins.refused("code 127 on a full pad", BAD_VALUE, () -> padOf(80), r -> r.put(127));
        Twins.refused("code 32 for the 81st", BAD_VALUE, () -> padOf(79), r -> r.put(' ' << 8 | 't'));
        Twins.refused("a gap on a full pad", BAD_VALUE, () -> padOf(80), r -> r.put('t' << 16 | 't'));
    }

    // ---- Promise 22: wipe

    @Sentence(of = "Promise 22", says = "Empties the pad, and returns the length that it had.")
    static void wipeReturnsTheLength() {
        for (int length : new int[] {0, 1, 79, 80}) {
            PauseLexicons room = padOf(length);
            int changes = room.count(14);
            Due.is(length + " characters", room.wipe(), length);
            Due.is("it is empty", room.count(13), 0);
            Due.is("it has the fault of an empty one", room.fault(), 0);
            Due.is("it was empty", room.wipe(), 0);
            Due.is("no change", room.count(14), changes);
            Due.is("there is place for eight", room.put(Due.packed("t1;t1;t1")), 8);
            Due.is("and for nothing that stood there", room.carryOut(), 3);
        }
    }

    // ---- Promise 23: fault

    @Sentence(of = "Promise 23", says = "Returns the fault of the pad, NONE if there is none.")
    static void faultNone() {
        fault("t1", NONE);
        fault("t99;x0;p0;e0;w0;c0;g0.0", NONE);
        fault("t1;".repeat(26) + "t1", NONE);
        fault("t1;".repeat(26) + "t", 79);
        PauseLexicons room = padOf(2);
        Due.is("none", room.fault(), NONE);
        Due.is("the text stays", room.count(13), 2);
        room.put(';');
        Due.is("too early", room.fault(), 3);
        room.put('t');
        Due.is("still too early", room.fault(), 4);
        room.put('1');
        Due.is("none again", room.fault(), NONE);
    }

    // ---- Promise 24: carryOut

    @Sentence(of = "Promise 24", says = "up to the first one that returns an error, and empties the pad")
    static void carryOutUpToTheFirstError() {
        String[] refused = {"g3.1", "g0.0", "x9", "x99", "p1", "p9", "e2", "e9", "w3", "w99", "c3", "c99", "t0"};
        for (String order : refused) {
            PauseLexicons room = Rooms.with(0, 5);
            Due.is("the first one: " + order, carryOut(room, order + ";t1"), 0);
            Due.is("the rest is not carried out", room.count(0), 0);
            Due.is("the pad is empty", room.count(13), 0);
            Due.is("the second one: " + order, carryOut(room, "t2;" + order + ";t1"), 1);
            Due.is("only the first one was", room.count(0), 2);
            Due.is("the last one: " + order, carryOut(room, "t3;t4;" + order), 2);
            Due.is("the ones before it were", room.count(0), 9);
            Due.is("the pad is empty", room.count(13) + room.fault(), 0);
        }
    }

    @Sentence(of = "Promise 24", says = "This is a change (one, with all of them")
    static void carryOutIsOneChange() {
        BoundariesOfChanges.isAChange("t1;t1", 2, () -> padOf(5), PauseLexicons::carryOut);
        PauseLexicons room = padOf(80);
        Due.is("27 orders", room.carryOut(), 27);
        Due.is("one change more than the guest", room.count(14), 2);
        Due.is("undone at once", room.undo(), 1);
        Due.is("all of them", room.count(0), 0);
    }

    @Sentence(of = "Promise 24", says = "also if none is carried out")
    static void carryOutOfNoneIsAChange() {
        BoundariesOfChanges.isAChange("t0", 0, BoundariesOfTexts::refusedOrder, PauseLexicons::carryOut);
    }

    private static PauseLexicons refusedOrder() {
        PauseLexicons room = Rooms.with(0, 5);
        Due.write(room, "t0");
        return room;
    }

    @Sentence(of = "Promise 24", says = "Returns how many orders were carried out")
    static void carryOutReturnsHowMany() {
        for (int orders = 1; orders <= 26; orders++) {
            Due.is(orders + " orders", padOf(3 * orders - 1).carryOut(), orders);
        }
        Due.is("the most that a pad holds", padOf(80).carryOut(), 27);
        Due.is("NONE is no error", carryOut(Rooms.with(0, 5), "p0;c0;p0;c0"), 4);
    }

    @Sentence(of = "Promise 24", says = "BAD_TEXT if the pad has a fault (then it stays)")
    static void carryOutBadText() {
        Twins.refused("an empty pad", BAD_TEXT, PauseLexicons::new, PauseLexicons::carryOut);
        Twins.refused("a text that ends too early", BAD_TEXT, Rooms::badText, PauseLexicons::carryOut);
        Twins.refused("a full pad that ends too early", BAD_TEXT, () -> padOf(78), PauseLexicons::carryOut);
        PauseLexicons room = Rooms.with(0, 5);
        Due.write(room, "t1;t2;t");
        Due.is("a fault at the end", room.carryOut(), BAD_TEXT);
        Due.is("nothing was carried out", room.count(0), 0);
        Due.is("the text stays", room.count(13), 7);
        room.put('3');
        Due.is("it can be ended", room.carryOut(), 3);
        Due.is("and was all there", room.count(0), 6);
    }

    @Sentence(of = "Promise 24", says = "(then it stays)")
    static void carryOutBadTextStays() {
        PauseLexicons room = new PauseLexicons();
        Due.write(room, "t1".repeat(40));
        Due.is("a fault at the beginning of a full one", room.carryOut(), BAD_TEXT);
        Due.is("80 characters", room.count(13), 80);
        Due.is("the same fault", room.fault(), 2);
        Due.is("as full as before", room.put('t'), TOO_MANY);
    }
}
