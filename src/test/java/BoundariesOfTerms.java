import java.util.List;
import java.util.function.ToIntFunction;

/** How often an object is used, and the boundaries that the section "Terms" names, without those of texts. */
final class BoundariesOfTerms implements Codes {
    private BoundariesOfTerms() {
    }

    // ---- What it is

    /** A room that is asked so many times more, always the same in turn. */
    private static PauseLexicons asked(PauseLexicons room, int times, List<ToIntFunction<PauseLexicons>> inTurn) {
        for (int i = 0; i < times; i++) {
            inTurn.get(i % inTurn.size()).applyAsInt(room);
        }
        return room;
    }

    @Sentence(of = "What it is", says = "An object is used for at most 512 calls after it has been made")
    static void the512thCallIsAnswered() {
        PauseLexicons room = asked(new PauseLexicons(), 511, List.of(r -> r.pass(1)));
        Due.is("the time after 511 seconds", room.count(0), 511);
        room = asked(new PauseLexicons(), 511, List.of(r -> r.set(SHORT, 7), r -> r.set(SHORT, 8)));
        Due.is("set", room.set(SHORT, 1), 7);
        room = asked(new PauseLexicons(), 511, List.of(r -> r.guest(1, 5)));
        Due.is("guest", room.guest(1, 5), TOO_MANY);
        room = asked(new PauseLexicons(), 511, List.of(r -> r.guest(1, 5), PauseLexicons::undo));
        Due.is("guest, and undone each time", room.guest(1, 5), 1);
        room = asked(Rooms.with(0, 5), 510, List.of(r -> r.move(0, 1), r -> r.move(0, 0)));
        Due.is("move", room.move(0, 2), 0);
        room = asked(Rooms.with(0, 5), 510, List.of(r -> r.pause(0), r -> r.close(0)));
        Due.is("closed", room.count(3), 255);
        room = asked(Rooms.with(0, 5), 510, List.of(r -> r.pause(0), r -> r.word(0)));
        Due.is("faults", room.of(0, 2), 255);
        room = asked(Rooms.with(0, 5), 510, List.of(r -> r.pause(0), r -> r.cough(0)));
        Due.is("broken", room.of(0, 5), 255);
        room = asked(new PauseLexicons(), 511, List.of(r -> r.put('x'), PauseLexicons::wipe));
        Due.is("put", room.put('x'), 2);
        room = asked(new PauseLexicons(), 511, List.of(r -> r.save(1), r -> r.pass(1), r -> r.restore(1)));
        Due.is("saved", room.restore(1), 0);
        room = asked(new PauseLexicons(), 511, List.of(PauseLexicons::undo));
        Due.is("undo", room.undo(), NOT_POSSIBLE);
    }

    @Sentence(of = "What it is", says = "An object is used for at most 512 calls after it has been made")
    static void textsOf512Calls() {
        PauseLexicons room = Rooms.with(0, 5);
        int calls = 1;
        for (int texts = 1; texts <= 46; texts++) {
            Due.write(room, "p0;e0" + ";p0;e0".repeat(12));
            Due.is("orders", room.carryOut(), 26);
            calls += 11;
        }
        Due.is("calls so far", calls, 507);
        Due.is("closed", room.count(3), 46 * 13);
        Due.is("closed there", room.table(0, 5), 46 * 13);
        Due.is("ends that are told", room.end(9, 0) * 10 + room.end(10, 0), NO_SUCH);
        Due.is("undo", room.undo(), 5);
    }

    @Sentence(of = "What it is", says = "An object is used for at most 512 calls after it has been made")
    static void questionsOf512Calls() {
        PauseLexicons room = asked(Rooms.evening(), 300, List.of(r -> r.wouldMean(0, 9), r -> r.turnsIn(0),
            r -> r.lender(0), r -> r.without(0), PauseLexicons::usual, PauseLexicons::fault));
        Twins.same("300 questions change nothing", room, Rooms.evening());
    }

    // ---- Conventions

    @Sentence(of = "Terms", says = "A method that fails returns one of the error codes NO_SUCH (-1), BAD_VALUE (-2), "
        + "BAD_TEXT (-3), TOO_MANY (-4) and NOT_POSSIBLE (-5)")
    static void errorCodes() {
        Due.is("NO_SUCH", PauseLexicons.NO_SUCH, -1);
        Due.is("BAD_VALUE", PauseLexicons.BAD_VALUE, -2);
        Due.is("BAD_TEXT", PauseLexicons.BAD_TEXT, -3);
        Due.is("TOO_MANY", PauseLexicons.TOO_MANY, -4);
        Due.is("NOT_POSSIBLE", PauseLexicons.NOT_POSSIBLE, -5);
        Due.is("no such table", Rooms.with().pause(3), -1);
        Due.is("a bad value", Rooms.with().pass(0), -2);
        Due.is("a bad text", Rooms.with().carryOut(), -3);
        Due.is("too many guests", Rooms.full().guest(0, 5), -4);
        Due.is("not possible", Rooms.with().undo(), -5);
    }

    @Sentence(of = "Terms", says = "it names its errors in the order in which they are checked, and the first one that "
        + "applies is returned")
    static void firstErrorThatApplies() {
        Twins.refused("guest(3, 0), the eleventh", NO_SUCH, Rooms::full, r -> r.guest(3, 0));
        Twins.refused("guest(0, 0), the eleventh", BAD_VALUE, Rooms::full, r -> r.guest(0, 0));
        Twins.refused("move(4, 3), has left", NO_SUCH, Rooms::evening, r -> r.move(4, 3));
        Twins.refused("pass(100) at the last time", BAD_VALUE, Rooms::late, r -> r.pass(100));
        Twins.refused("end(10, 5)", NO_SUCH, Rooms::evening, r -> r.end(10, 5));
        Twins.refused("restore(2), nothing saved", BAD_VALUE, Rooms::company1, r -> r.restore(2));
    }

    @Sentence(of = "Terms", says = "A call that returns an error changes nothing.")
    static void anErrorOfEachCallChangesNothing() {
        Twins.refused("set", BAD_VALUE, Rooms::evening, r -> r.set(SHORT, 21));
        Twins.refused("guest", BAD_VALUE, Rooms::evening, r -> r.guest(0, 10));
        Twins.refused("leave", NOT_POSSIBLE, Rooms::evening, r -> r.leave(4));
        Twins.refused("move", NOT_POSSIBLE, Rooms::evening, r -> r.move(0, 0));
        Twins.refused("pause", NOT_POSSIBLE, Rooms::evening, r -> r.pause(0));
        Twins.refused("close", NOT_POSSIBLE, Rooms::evening, r -> r.close(1));
        Twins.refused("word", NOT_POSSIBLE, Rooms::evening, r -> r.word(3));
        Twins.refused("cough", NOT_POSSIBLE, Rooms::evening, r -> r.cough(3));
        Twins.refused("pass", BAD_VALUE, Rooms::evening, r -> r.pass(100));
        Twins.refused("of", BAD_VALUE, Rooms::evening, r -> r.of(0, 7));
        Twins.refused("table", BAD_VALUE, Rooms::evening, r -> r.table(0, 6));
        Twins.refused("meaning", BAD_VALUE, Rooms::evening, r -> r.meaning(1, 2));
        Twins.refused("end", BAD_VALUE, Rooms::evening, r -> r.end(0, 5));
        Twins.refused("count", BAD_VALUE, Rooms::evening, r -> r.count(15));
        Twins.refused("wouldMean", BAD_VALUE, Rooms::evening, r -> r.wouldMean(0, 1000));
        Twins.refused("turnsIn", NOT_POSSIBLE, Rooms::evening, r -> r.turnsIn(1));
        Twins.refused("lender", NOT_POSSIBLE, Rooms::evening, r -> r.lender(4));
        Twins.refused("without", NOT_POSSIBLE, Rooms::evening, r -> r.without(3));
        Twins.refused("put", BAD_VALUE, Rooms::evening, r -> r.put(' '));
        Twins.refused("carryOut", BAD_TEXT, Rooms::badText, PauseLexicons::carryOut);
        Twins.refused("undo", NOT_POSSIBLE, Rooms::undone, PauseLexicons::undo);
        Twins.refused("save", BAD_VALUE, Rooms::evening, r -> r.save(2));
        Twins.refused("restore", NOT_POSSIBLE, Rooms::evening, r -> r.restore(1));
    }

    @Sentence(of = "Terms", says = "NONE (-6) is not an error")
    static void noneIsNotAnError() {
        Due.is("NONE", PauseLexicons.NONE, -6);
        PauseLexicons room = Rooms.with(0, 5);
        room.pause(0);
        Due.is("nobody lends", room.cough(0), NONE);
        Due.is("it is carried out all the same", room.count(5), 1);
        Due.is("and recorded", room.count(14), 3);
        Due.write(room, "p0;c0;t1");
        Due.is("nor does it end a text", room.carryOut(), 3);
    }

    @Sentence(of = "Terms", says = "it is returned only if no error applies")
    static void noneOnlyIfNoErrorApplies() {
        PauseLexicons room = Rooms.evening();
        Due.is("what 7 of a guest who has left", room.of(4, 7), BAD_VALUE);
        Due.is("the host of no table", room.table(3, 1), NO_SUCH);
        Due.is("what 6 of a table without guests", room.table(2, 6), BAD_VALUE);
        Due.is("a cough of one who is alone, without a pause", room.cough(3), NOT_POSSIBLE);
        Due.is("a cough of one who has left", room.cough(4), NOT_POSSIBLE);
        Due.is("the lender of one who has left", room.lender(4), NOT_POSSIBLE);
        Due.is("the turn of no pause", room.turnsIn(2), NOT_POSSIBLE);
        Due.is("who broke an end that is not told", room.end(3, 4), NO_SUCH);
    }

    @Sentence(of = "Terms", says = "Everything is numbered from 0.")
    static void numberedFrom0() {
        PauseLexicons room = new PauseLexicons();
        Due.is("setting 0", room.set(0, 3), 3);
        Due.is("table 0 and guest 0", room.guest(0, 5), 0);
        Due.is("slot 0", room.save(0), 1);
        Due.is("character 0", Due.write(room, "a") * 10 + room.fault(), 10);
        room.pause(0);
        room.close(0);
        Due.is("end 0", room.end(0, 0), 0);
    }

    @Sentence(of = "Terms", says = "Divisions are rounded down.")
    static void shadesAreRoundedDown() {
        PauseLexicons room = Rooms.company(2);
        room.set(SHORT, 20);
        room.set(STEP, 20);
        int[] seconds = {20, 39, 40, 59, 60, 79, 80};
        int[] due = {3, 3, 4, 4, 5, 5, 5};
        for (int i = 0; i < due.length; i++) {
            Due.is("a pair after " + seconds[i], room.wouldMean(0, seconds[i]), due[i]);
        }
    }

    @Sentence(of = "Terms", says = "Sets of guests and meanings are bit masks.")
    static void setsAreBitMasks() {
        PauseLexicons room = new PauseLexicons();
        Due.is("no guests", room.count(1), 0);
        for (int guest = 0; guest < 10; guest++) {
            room.guest(guest == 9 ? 2 : 0, 5);
            Due.is("guests 0 to " + guest, room.count(1), (1 << guest + 1) - 1);
        }
        Due.is("guest 9 alone", room.table(2, 0), 512);
        Due.is("guests 0 to 8", room.table(0, 0), 511);
        PauseLexicons silent = Rooms.with(0, 5);
        Due.is("no meanings", silent.count(7), 0);
        closeAfter(silent, 3);
        Due.is("meaning 1", silent.count(7), 2);
        PauseLexicons court = Rooms.company(4);
        closeAfter(court, 15);
        Due.is("meaning 11", court.count(7), 2048);
    }

    private static int closeAfter(PauseLexicons room, int seconds) {
        room.pause(0);
        Rooms.pass(room, seconds);
        return room.close(0);
    }

    // ---- Settings

    private static void settingIsWithin(int setting, int first, int highest) {
        PauseLexicons room = new PauseLexicons();
        Due.is("first value of " + setting, room.count(9 + setting), first);
        for (int value : Twins.outside(1, highest)) {
            Twins.refused("set(" + setting + ", " + value + ")", BAD_VALUE, Rooms::evening, r -> r.set(setting, value));
        }
        int before = first;
        for (int value : new int[] {1, 2, highest - 1, highest}) {
            Due.is("set(" + setting + ", " + value + ")", room.set(setting, value), before);
            Due.is("setting " + setting, room.count(9 + setting), value);
            before = value;
        }
    }

    @Sentence(of = "Settings", says = "SHORT (1 to 20; 3)")
    static void shortIs1To20() {
        settingIsWithin(SHORT, 3, 20);
    }

    @Sentence(of = "Settings", says = "seconds that a pause has to last to mean something")
    static void shortIsTheFirstSecondThatMeans() {
        for (int value : new int[] {1, 2, 3, 19, 20}) {
            PauseLexicons room = Rooms.with(0, 5);
            room.set(SHORT, value);
            Due.is("one second less than " + value, room.wouldMean(0, value - 1), 0);
            Due.is(value + " seconds", room.wouldMean(0, value), 1);
        }
    }

    @Sentence(of = "Settings", says = "STEP (1 to 20; 4)")
    static void stepIs1To20() {
        settingIsWithin(STEP, 4, 20);
    }

    @Sentence(of = "Settings", says = "seconds of a shade")
    static void stepIsTheLengthOfAShade() {
        for (int value : new int[] {1, 2, 4, 19, 20}) {
            PauseLexicons room = Rooms.company(3);
            room.set(STEP, value);
            Due.is("last second of shade 0", room.wouldMean(0, 3 + value - 1), 6);
            Due.is("first second of shade 1", room.wouldMean(0, 3 + value), 7);
            Due.is("last second of shade 2", room.wouldMean(0, 3 + 3 * value - 1), 7);
            Due.is("first second of shade 3", room.wouldMean(0, 3 + 3 * value), 8);
        }
    }

    @Sentence(of = "Settings", says = "LEND (1 to 9; 2)")
    static void lendIs1To9() {
        settingIsWithin(LEND, 2, 9);
    }

    @Sentence(of = "Settings", says = "coughs that a guest has to lend")
    static void lendIsHowManyCoughsAreLent() {
        for (int value : new int[] {1, 9}) {
            PauseLexicons room = new PauseLexicons();
            room.set(LEND, value);
            room.guest(0, 5);
            room.guest(0, 5);
            for (int cough = 1; cough <= value; cough++) {
                room.pause(0);
                Due.is("cough " + cough + " of " + value, room.cough(0), 1);
            }
            room.pause(0);
            Due.is("one cough more than " + value, room.cough(0), NONE);
        }
    }

    @Sentence(of = "Settings", says = "SHAME (1 to 9; 1)")
    static void shameIs1To9() {
        settingIsWithin(SHAME, 1, 9);
    }

    @Sentence(of = "Settings", says = "faults of a break")
    static void shameIsWhatABreakAdds() {
        for (int value : new int[] {1, 2, 9}) {
            PauseLexicons room = Rooms.with(0, 5);
            room.set(SHAME, value);
            room.pause(0);
            Due.is("a word", room.word(0), value);
            room.pause(0);
            room.cough(0);
            Due.is("a cough that nobody lends", room.of(0, 2), 2 * value);
        }
    }

    // ---- Guests

    @Sentence(of = "Guests", says = "There are up to 10 guests, numbered in the order in which they came")
    static void upTo10Guests() {
        PauseLexicons room = new PauseLexicons();
        Due.is("no guest", room.of(0, 1), NO_SUCH);
        for (int guest = 0; guest < 10; guest++) {
            Due.is("guest " + guest, room.guest(guest % 3, 9 - guest % 9), guest);
            Due.is("rank of " + guest, room.of(guest, 1), 9 - guest % 9);
            Due.is("no guest after " + guest, room.of(guest + 1, 1), NO_SUCH);
        }
        Due.is("the eleventh", room.guest(0, 1), TOO_MANY);
    }

    @Sentence(of = "Guests", says = "each at one of the tables 0 to 2")
    static void tables0To2() {
        PauseLexicons room = new PauseLexicons();
        Due.is("table -1", room.guest(-1, 1), NO_SUCH);
        Due.is("table 0", room.guest(0, 1), 0);
        Due.is("table 2", room.guest(2, 1), 1);
        Due.is("table 3", room.guest(3, 1), NO_SUCH);
        Due.is("at table 0", room.of(0, 0), 0);
        Due.is("at table 2", room.of(1, 0), 2);
    }

    @Sentence(of = "Guests", says = "with a rank (1 to 9)")
    static void ranks1To9() {
        PauseLexicons room = new PauseLexicons();
        Due.is("rank 0", room.guest(0, 0), BAD_VALUE);
        Due.is("rank 1", room.guest(0, 1), 0);
        Due.is("rank 9", room.guest(0, 9), 1);
        Due.is("rank 10", room.guest(0, 10), BAD_VALUE);
        Due.is("lowest rank", room.of(0, 1), 1);
        Due.is("highest rank", room.of(1, 1), 9);
    }

    @Sentence(of = "Guests", says = "faults (0 at first)")
    static void faults0AtFirst() {
        PauseLexicons room = Rooms.with(0, 5);
        room.pause(0);
        room.word(0);
        room.guest(0, 6);
        Due.is("a new guest", room.of(1, 2), 0);
        room.pause(0);
        room.word(1);
        room.undo();
        room.undo();
        room.undo();
        room.guest(1, 1);
        Due.is("a new guest with the number of one who had faults", room.of(1, 2), 0);
    }

    @Sentence(of = "Guests", says = "coughs to lend (LEND as it is when the guest comes)")
    static void lendAsItIsWhenTheGuestComes() {
        PauseLexicons room = Rooms.with(0, 5);
        room.set(LEND, 9);
        room.guest(0, 5);
        room.set(LEND, 1);
        room.guest(0, 5);
        Due.is("as it was at first", room.of(0, 3), 2);
        Due.is("as it was in between", room.of(1, 3), 9);
        Due.is("as it is", room.of(2, 3), 1);
    }

    @Sentence(of = "Guests", says = "its guest with the highest rank")
    static void hostIsTheHighestRank() {
        PauseLexicons room = Rooms.with(0, 1);
        Due.is("alone, of the lowest rank", room.table(0, 1), 0);
        room.guest(0, 2);
        Due.is("one rank more", room.table(0, 1), 1);
        room.guest(0, 9);
        Due.is("the highest rank", room.table(0, 1), 2);
        room.guest(0, 8);
        Due.is("one rank less", room.table(0, 1), 2);
        room.guest(1, 9);
        room.leave(2);
        Due.is("not one of another table, nor who has left", room.table(0, 1), 3);
    }

    @Sentence(of = "Guests", says = "of several the lowest number")
    static void hostIsTheLowestNumber() {
        PauseLexicons room = Rooms.with(0, 4, 0, 9, 0, 9, 0, 9);
        Due.is("of three", room.table(0, 1), 1);
        room.move(1, 1);
        Due.is("of two", room.table(0, 1), 2);
        room.move(1, 0);
        Due.is("also who comes back", room.table(0, 1), 1);
        Due.is("of ten", Rooms.full().table(0, 1), 0);
    }

    @Sentence(of = "Guests", says = "The company of a table is 0 without guests")
    static void companyWithoutGuests() {
        PauseLexicons room = Rooms.with(1, 5);
        Due.is("nobody came", room.table(0, 2), 0);
        room.leave(0);
        Due.is("nobody stays", room.table(1, 2), 0);
    }

    @Sentence(of = "Guests", says = "1 with one (alone), 2 with two (a pair), 3 with three or more")
    static void companyByNumber() {
        PauseLexicons room = new PauseLexicons();
        for (int number = 1; number <= 10; number++) {
            room.guest(1, 5);
            Due.is("with " + number, room.table(1, 2), Math.min(number, 3));
        }
        Due.is("a pair of different ranks", Rooms.with(0, 1, 0, 9).table(0, 2), 2);
    }

    @Sentence(of = "Guests", says = "all of one rank (peers), 4 with three or more otherwise (a court)")
    static void companyByRanks() {
        Due.is("the first one is of another rank", Rooms.with(0, 4, 0, 5, 0, 5).table(0, 2), 4);
        Due.is("the second one is", Rooms.with(0, 5, 0, 4, 0, 5).table(0, 2), 4);
        Due.is("the third one is", Rooms.with(0, 5, 0, 5, 0, 4).table(0, 2), 4);
        Due.is("all are of one", Rooms.with(0, 5, 0, 5, 0, 5, 1, 4).table(0, 2), 3);
        PauseLexicons room = Rooms.full();
        Due.is("ten of one rank", room.table(0, 2), 3);
        room.undo();
        room.guest(0, 6);
        Due.is("the tenth of another", room.table(0, 2), 4);
        room.leave(9);
        Due.is("who has left does not count", room.table(0, 2), 3);
    }

    // ---- Pauses

    @Sentence(of = "Pauses", says = "there is a pause, or none (at first)")
    static void noPauseAtFirst() {
        PauseLexicons room = new PauseLexicons();
        room.pass(5);
        for (int table = 0; table < 3; table++) {
            room.guest(table, 5);
            Due.is("none at table " + table, room.table(table, 3), NONE);
        }
        Due.is("none at all", room.count(2), 0);
    }

    @Sentence(of = "Pauses", says = "while it lasts, it is one second longer with each second")
    static void oneSecondLongerWithEachSecond() {
        PauseLexicons room = Rooms.with(0, 5, 1, 5);
        room.pass(50);
        room.pause(0);
        Due.is("it begins with none", room.table(0, 3), 0);
        room.pass(1);
        room.pause(1);
        room.pass(99);
        Due.is("after 1 and 99", room.table(0, 3), 100);
        Due.is("the later one", room.table(1, 3), 99);
        Due.is("the longest one there can be", Rooms.late().table(0, 3), 9999);
    }

    @Sentence(of = "Pauses", says = "It means nothing (0) if it is shorter than SHORT")
    static void shorterThanShortMeansNothing() {
        for (int company = 1; company <= 4; company++) {
            PauseLexicons room = Rooms.company(company);
            room.pause(0);
            Due.is("0 seconds of company " + company, room.table(0, 4), 0);
            room.pass(2);
            Due.is("2 seconds of company " + company, room.table(0, 4), 0);
            room.pass(1);
            Due.holds("3 seconds of company " + company, room.table(0, 4) > 0);
            room.set(SHORT, 4);
            Due.is("shorter than a longer SHORT", room.table(0, 4), 0);
            room.set(SHORT, 1);
            Due.holds("longer than a shorter SHORT", room.table(0, 4) > 0);
        }
    }

    @Sentence(of = "Pauses", says = "otherwise its meaning is told by the company of the table then")
    static void meaningByTheCompanyThen() {
        PauseLexicons room = Rooms.with(0, 5, 1, 5, 1, 5, 1, 6);
        room.pause(0);
        room.pass(15);
        int[] due = {5, 8, 11};
        Due.is("alone", room.table(0, 4), 2);
        for (int guest = 1; guest <= 3; guest++) {
            room.move(guest, 0);
            Due.is("with guest " + guest, room.table(0, 4), due[guest - 1]);
        }
        for (int guest = 3; guest >= 1; guest--) {
            Due.is("with guest " + guest + " still", room.table(0, 4), due[guest - 1]);
            room.leave(guest);
        }
        Due.is("alone again", room.table(0, 4), 2);
    }

    @Sentence(of = "Pauses", says = "(the seconds less SHORT) / STEP, but 3 at most")
    static void shadeIs3AtMost() {
        int[] inShade3 = {0, 2, 5, 8, 11};
        for (int company = 1; company <= 4; company++) {
            PauseLexicons room = Rooms.company(company);
            for (int seconds : new int[] {15, 18, 19, 23, 100, 999}) {
                Due.is("company " + company + " after " + seconds, room.wouldMean(0, seconds), inShade3[company]);
            }
            room.set(SHORT, 1);
            room.set(STEP, 1);
            for (int seconds : new int[] {4, 5, 6, 7, 999}) {
                Due.is("of 1-second shades, after " + seconds, room.wouldMean(0, seconds), inShade3[company]);
            }
            room.pause(0);
            Rooms.pass(room, 9999);
            Due.is("the longest one there can be", room.table(0, 4), inShade3[company]);
        }
    }

    /** The last second before each shade, and its first one, for the first, the lowest and the highest settings. */
    private static void meaningsOf(int company, int... byShade) {
        int[][] shortsAndSteps = {{3, 4}, {1, 1}, {20, 20}, {1, 20}, {20, 1}};
        for (int[] settings : shortsAndSteps) {
            PauseLexicons room = Rooms.company(company);
            room.set(SHORT, settings[0]);
            room.set(STEP, settings[1]);
            for (int shade = 0; shade <= 3; shade++) {
                int begin = settings[0] + shade * settings[1];
                int before = shade == 0 ? 0 : byShade[shade - 1];
                Due.is("before shade " + shade, room.wouldMean(0, begin - 1), before);
                Due.is("shade " + shade, room.wouldMean(0, begin), byShade[shade]);
            }
        }
    }

    @Sentence(of = "Pauses", says = "alone: 1 (thought) with the shades 0 and 1, 2 (sleep) with 2 and 3")
    static void meaningsOfOneAlone() {
        meaningsOf(1, 1, 1, 2, 2);
    }

    @Sentence(of = "Pauses",
        says = "a pair: 3 (tenderness) with the shade 0, 4 (quarrel) with 1, 5 (parting) with 2 and 3")
    static void meaningsOfAPair() {
        meaningsOf(2, 3, 4, 5, 5);
    }

    @Sentence(of = "Pauses", says = "peers: 6 (agreement) with the shade 0, 7 (doubt) with 1 and 2, 8 (boredom) with 3")
    static void meaningsOfPeers() {
        meaningsOf(3, 6, 7, 7, 8);
    }

    @Sentence(of = "Pauses",
        says = "a court: 9 (respect) with the shades 0 and 1, 10 (fear) with 2, 11 (the end of the "
        + "evening) with 3")
    static void meaningsOfACourt() {
        meaningsOf(4, 9, 9, 10, 11);
    }

    @Sentence(of = "Pauses", says = "it has meant what it means at that time, and this is entered into the lexicon")
    static void closedIsEnteredIntoTheLexicon() {
        PauseLexicons room = Rooms.company(2);
        Due.is("3 seconds", closeAfter(room, 3), 3);
        Due.is("entered", room.meaning(3, 0) * 100 + room.meaning(3, 1), 103);
        Due.is("6 seconds", closeAfter(room, 6), 3);
        Due.is("entered", room.meaning(3, 0) * 100 + room.meaning(3, 1), 206);
        Due.is("7 seconds", closeAfter(room, 7), 4);
        Due.is("entered", room.meaning(4, 0) * 100 + room.meaning(4, 1), 107);
    }

    @Sentence(of = "Pauses", says = "it has meant what it means at that time")
    static void closedTooShortHasMeantNothing() {
        PauseLexicons room = Rooms.company(2);
        Due.is("0 seconds", closeAfter(room, 0), 0);
        Due.is("2 seconds", closeAfter(room, 2), 0);
        Due.is("nothing is no meaning of the lexicon", room.count(7), 0);
        Due.is("the ends are told", room.end(0, 2) * 10 + room.end(1, 2), 20);
        Due.is("and counted", room.count(3), 2);
    }

    @Sentence(of = "Pauses",
        says = "it is broken by a word: it has meant nothing, and the one who spoke has SHAME faults "
        + "more")
    static void brokenByAWordHasMeantNothing() {
        PauseLexicons room = Rooms.company(4);
        room.set(SHAME, 9);
        room.pause(0);
        room.pass(15);
        Due.is("it would mean something", room.table(0, 4), 11);
        Due.is("SHAME faults", room.word(0), 9);
        Due.is("it has meant nothing", room.end(0, 3), 0);
        Due.is("nothing is entered", room.count(7) + room.meaning(11, 0) + room.meaning(11, 1), 0);
    }

    @Sentence(of = "Pauses", says = "and the host 1, if that is somebody else")
    static void hostAnswersForAWord() {
        PauseLexicons room = Rooms.with(0, 5, 0, 6, 1, 9);
        room.set(SHAME, 9);
        room.pause(0);
        room.word(0);
        Due.is("the host is somebody else", room.of(1, 2), 1);
        room.pause(0);
        Due.is("the host is who spoke", room.word(1), 10);
        room.pause(1);
        Due.is("alone one is the host", room.word(2), 9);
        Due.is("nobody else answers", room.count(6), 9 + 10 + 9);
        PauseLexicons full = Rooms.full();
        full.pause(0);
        full.word(9);
        Due.is("also guest 0", full.of(0, 2), 1);
    }

    @Sentence(of = "Pauses", says = "it is broken by a cough: it has meant nothing")
    static void brokenByACoughHasMeantNothing() {
        PauseLexicons room = Rooms.company(3);
        room.pause(0);
        room.pass(15);
        Due.is("it would mean something", room.table(0, 4), 8);
        room.cough(0);
        Due.is("it has meant nothing", room.end(0, 3), 0);
        Due.is("nothing is entered", room.count(7) + room.meaning(8, 0) + room.meaning(8, 1), 0);
        Due.is("a cough that is lent is no fault", room.count(6), 0);
    }

    @Sentence(of = "Pauses", says = "pays with a cough to lend of another guest of the table")
    static void coughOfAnotherGuestOfTheTable() {
        PauseLexicons room = Rooms.with(0, 1, 0, 9, 1, 1);
        room.pause(0);
        Due.is("neither of the own ones, nor of another table's", room.cough(0), 1);
        Due.is("the own ones stay", room.of(0, 3), 2);
        Due.is("those of another table stay", room.of(2, 3), 2);
        Due.is("the lender has one less", room.of(1, 3), 1);
    }

    @Sentence(of = "Pauses", says = "who has some left")
    static void lenderHasSomeLeft() {
        PauseLexicons room = new PauseLexicons();
        room.set(LEND, 1);
        room.guest(0, 5);
        room.guest(0, 3);
        room.guest(0, 4);
        room.pause(0);
        Due.is("the last one of guest 1", room.cough(0), 1);
        Due.is("guest 1 has none left", room.of(1, 3), 0);
        room.pause(0);
        Due.is("so the next rank", room.cough(0), 2);
        room.pause(0);
        Due.is("then nobody", room.cough(0), NONE);
        Due.is("never less than none", room.of(1, 3) + room.of(2, 3), 0);
    }

    @Sentence(of = "Pauses", says = "the one of the lowest rank, of several the lowest number")
    static void lenderIsTheLowest() {
        PauseLexicons room = Rooms.with(0, 9, 0, 2, 0, 1, 0, 1, 0, 9);
        int[] due = {2, 2, 3, 3, 1, 1, 4, 4, NONE};
        for (int i = 0; i < due.length; i++) {
            room.pause(0);
            Due.is("cough " + i, room.cough(0), due[i]);
        }
        Due.is("nine others of one rank", Rooms.full().lender(0), 1);
        Due.is("also before the one who coughs", Rooms.full().lender(9), 0);
    }

    @Sentence(of = "Pauses", says = "if there is none, the one who coughed has SHAME faults more")
    static void nobodyLends() {
        PauseLexicons room = Rooms.with(0, 5, 1, 6);
        room.set(SHAME, 9);
        room.pause(0);
        Due.is("alone", room.cough(0), NONE);
        Due.is("SHAME faults", room.of(0, 2), 9);
        Due.is("the own coughs stay", room.of(0, 3), 2);
        room.set(SHAME, 1);
        room.pause(0);
        room.cough(0);
        Due.is("SHAME as it is then", room.of(0, 2), 10);
        room.move(1, 0);
        for (int i = 0; i < 3; i++) {
            room.pause(0);
            Due.is("cough " + i + " of a pair", room.cough(0), i < 2 ? 1 : NONE);
        }
        Due.is("one more for the third", room.of(0, 2), 11);
        Due.is("the host does not answer for it", room.of(1, 2), 0);
    }

    @Sentence(of = "Pauses", says = "If a guest comes to a table, or leaves it, its pause goes on.")
    static void pauseGoesOn() {
        PauseLexicons room = Rooms.with(0, 5, 1, 5);
        room.pause(0);
        room.pass(7);
        room.guest(0, 5);
        Due.is("a new guest", room.table(0, 3), 7);
        room.move(1, 0);
        Due.is("from another table", room.table(0, 3), 7);
        room.move(2, 1);
        Due.is("to another table", room.table(0, 3), 7);
        room.leave(0);
        Due.is("out of the room", room.table(0, 3), 7);
        room.pass(1);
        Due.is("and it gets longer", room.table(0, 3), 8);
    }

    // ---- The lexicon

    @Sentence(of = "The lexicon", says = "The lexicon has for each meaning, 1 to 11, how often it was meant, and the "
        + "longest pause that meant it.")
    static void eachMeaningFrom1To11() {
        int[][] seconds = {{3, 11}, {3, 7, 11}, {3, 7, 15}, {3, 11, 15}};
        int meaning = 0;
        for (int company = 1; company <= 4; company++) {
            for (int length : seconds[company - 1]) {
                meaning++;
                PauseLexicons room = Rooms.company(company);
                Due.is("not yet", room.meaning(meaning, 0) + room.meaning(meaning, 1), 0);
                Due.is("meaning " + meaning, closeAfter(room, length), meaning);
                closeAfter(room, length + 1);
                closeAfter(room, length);
                Due.is("how often " + meaning, room.meaning(meaning, 0), 3);
                Due.is("the longest of " + meaning, room.meaning(meaning, 1), length + 1);
                Due.is("no other one", room.count(7), 1 << meaning);
            }
        }
        Due.is("there are 11", meaning, 11);
    }

    @Sentence(of = "The lexicon", says = "the longest pause that meant it")
    static void longestPauseThereCanBe() {
        PauseLexicons room = Rooms.late();
        room.close(0);
        Due.is("as long as the time", room.meaning(2, 1), 9999);
    }

    @Sentence(of = "The lexicon", says = "It also tells the latest 10 ends of pauses")
    static void latest10Ends() {
        PauseLexicons room = Rooms.with(0, 5);
        Due.is("no end told", room.end(0, 2), NO_SUCH);
        for (int end = 1; end <= 12; end++) {
            closeAfter(room, end);
            Due.is("the latest of " + end, room.end(0, 2), end);
            int oldest = Math.min(end, 10) - 1;
            Due.is("the oldest of " + end, room.end(oldest, 2), end - oldest);
            Due.is("not one more of " + end, room.end(oldest + 1, 2), NO_SUCH);
        }
        for (int rank = 0; rank < 10; rank++) {
            Due.is("end " + rank, room.end(rank, 2), 12 - rank);
        }
    }

    @Sentence(of = "The lexicon", says = "0 closed, 1 broken by a word, 2 broken by a cough")
    static void waysToEnd() {
        PauseLexicons room = Rooms.with(0, 5);
        closeAfter(room, 1);
        room.pause(0);
        room.word(0);
        room.pause(0);
        room.cough(0);
        Due.is("closed", room.end(2, 0), 0);
        Due.is("by a word", room.end(1, 0), 1);
        Due.is("by a cough", room.end(0, 0), 2);
    }
}
