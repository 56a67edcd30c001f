import java.util.function.Supplier;
import java.util.function.ToIntFunction;

/** Boundaries that promises 1 to 10 name. */
final class BoundariesOfChanges implements Codes {
    private BoundariesOfChanges() {
    }

    /**
     * The call is recorded as the sixth change and as the seventh (of which the first is dropped), and undone to the
     * very state before it.
     */
    static void isAChange(String call, int due, Supplier<PauseLexicons> fewChanges,
            ToIntFunction<PauseLexicons> asked) {
        for (int before : new int[] {5, 6}) {
            PauseLexicons room = withChanges(fewChanges.get(), before);
            PauseLexicons twin = withChanges(fewChanges.get(), before);
            Due.is(call, asked.applyAsInt(room), due);
            twin.set(SHORT, 3);
            Due.is(call + " is recorded", room.count(14), 6);
            Due.is(call + " is undone", room.undo(), 5);
            twin.undo();
            // The twin still has the text that the room has carried out.
            Due.is("no undo brings a text back", room.wipe(), 0);
            twin.wipe();
            Twins.same(call + " is undone to the state before", room, twin);
            Due.is(call + " has dropped all but six", Twins.undo(room, 6), NOT_POSSIBLE);
            Twins.undo(twin, 6);
            Twins.same(call + " is one of the history", room, twin);
        }
    }

    /** Changes that change nothing but the history. */
    private static PauseLexicons withChanges(PauseLexicons room, int changes) {
        while (room.count(14) < changes) {
            room.set(SHORT, 3);
        }
        return room;
    }

    /** Guests 0 (rank 5) and 1 (rank 6) at table 0 with a pause of 3 seconds, which is saved in slot 0. */
    private static PauseLexicons pair() {
        PauseLexicons room = Rooms.with(0, 5, 0, 6);
        room.pause(0);
        room.pass(3);
        room.save(0);
        return room;
    }

    private static void refusesTables(ToIntFunction<Asked> call, String name) {
        for (int table : Twins.outside(0, 2)) {
            Twins.refused(name + " of table " + table, NO_SUCH, Rooms::evening,
                room -> call.applyAsInt(new Asked(room, table)));
        }
    }

    /** Five have come to the room of the evening, ten to the full one, none to the new one. */
    static void refusesGuests(ToIntFunction<Asked> call, String name) {
        for (int guest : Twins.outside(0, 4)) {
            Twins.refused(name + " of guest " + guest + " of 5", NO_SUCH, Rooms::evening,
                room -> call.applyAsInt(new Asked(room, guest)));
        }
        for (int guest : Twins.outside(0, 9)) {
            Twins.refused(name + " of guest " + guest + " of 10", NO_SUCH, Rooms::full,
                room -> call.applyAsInt(new Asked(room, guest)));
        }
        Twins.refused(name + " of guest 0 of none", NO_SUCH, PauseLexicons::new,
            room -> call.applyAsInt(new Asked(room, 0)));
    }

    /** A room, and the value that it is asked with. */
    record Asked(PauseLexicons room, int value) {
    }

    // ---- Promise 1

    @Sentence(of = "Promise 1", says = "Creates a room with three empty tables, at the time 0.")
    static void emptyTablesAtTheTime0() {
        PauseLexicons room = new PauseLexicons();
        for (int table = 0; table < 3; table++) {
            Due.is("guests of table " + table, room.table(table, 0), 0);
            Due.is("company of table " + table, room.table(table, 2), 0);
            Due.is("pause of table " + table, room.table(table, 3), NONE);
        }
        Due.is("no fourth table", room.table(3, 0), NO_SUCH);
        Due.is("the time", room.count(0), 0);
        Due.is("no guest", room.of(0, 0), NO_SUCH);
        Due.is("no end", room.end(0, 0), NO_SUCH);
        Due.is("an empty pad", room.count(13), 0);
        Due.is("no change", room.undo(), NOT_POSSIBLE);
        Due.is("nothing saved", room.restore(0) + room.restore(1), 2 * NOT_POSSIBLE);
    }

    // ---- Promise 2: set

    @Sentence(of = "Promise 2", says = "This is a change.")
    static void setIsAChange() {
        isAChange("set(3, 9)", 1, BoundariesOfChanges::pair, r -> r.set(SHAME, 9));
    }

    @Sentence(of = "Promise 2", says = "Returns the previous value")
    static void setReturnsThePreviousValue() {
        PauseLexicons room = new PauseLexicons();
        Due.is("the first one", room.set(STEP, 20), 4);
        Due.is("the highest one", room.set(STEP, 1), 20);
        Due.is("the lowest one", room.set(STEP, 1), 1);
        room.set(STEP, 21);
        Due.is("not one that was refused", room.set(STEP, 5), 1);
        room.undo();
        Due.is("not one that was undone", room.set(STEP, 6), 1);
    }

    @Sentence(of = "Promise 2", says = "BAD_VALUE if there is no such setting")
    static void setNoSuchSetting() {
        for (int setting : Twins.outside(0, 3)) {
            Twins.refused("setting " + setting, BAD_VALUE, Rooms::evening, r -> r.set(setting, 5));
        }
        Due.is("setting 0", Rooms.evening().set(0, 5), 3);
        Due.is("setting 3", Rooms.evening().set(3, 5), 1);
    }

    @Sentence(of = "Promise 2", says = "or the value is out of its range")
    static void setValueOutOfItsRange() {
        int[] highest = {20, 20, 9, 9};
        int[] first = {3, 4, 2, 1};
        for (int setting = 0; setting <= 3; setting++) {
            int number = setting;
            for (int value : Twins.outside(1, highest[setting])) {
                Twins.refused("value " + value, BAD_VALUE, Rooms::evening, r -> r.set(number, value));
            }
            Due.is("the lowest of " + setting, Rooms.evening().set(setting, 1), first[setting]);
            Due.is("the highest of " + setting, Rooms.evening().set(setting, highest[setting]), first[setting]);
        }
    }

    // ---- Promise 3: guest

    @Sentence(of = "Promise 3", says = "This is a change.")
    static void guestIsAChange() {
        isAChange("guest(1, 9)", 2, BoundariesOfChanges::pair, r -> r.guest(1, 9));
    }

    @Sentence(of = "Promise 3", says = "`rank`: 1 to 9")
    static void guestOfRank1To9() {
        for (int rank : new int[] {1, 2, 8, 9}) {
            PauseLexicons room = new PauseLexicons();
            Due.is("rank " + rank, room.guest(0, rank), 0);
            Due.is("rank " + rank, room.of(0, 1), rank);
        }
    }

    @Sentence(of = "Promise 3", says = "Returns the number")
    static void guestReturnsTheNumber() {
        PauseLexicons room = new PauseLexicons();
        Due.is("the first one", room.guest(2, 9), 0);
        room.leave(0);
        Due.is("the number of one who left is not free", room.guest(2, 9), 1);
        room.guest(3, 9);
        Due.is("one who was refused has no number", room.guest(2, 9), 2);
        room.undo();
        Due.is("the number of one who is undone is free", room.guest(1, 1), 2);
        for (int number = 3; number < 10; number++) {
            Due.is("number " + number, room.guest(0, 5), number);
        }
    }

    @Sentence(of = "Promise 3", says = "NO_SUCH if there is no such table")
    static void guestNoSuchTable() {
        refusesTables(a -> a.room().guest(a.value(), 5), "guest");
        Due.is("table 0", Rooms.evening().guest(0, 5), 5);
        Due.is("table 2", Rooms.evening().guest(2, 5), 5);
    }

    @Sentence(of = "Promise 3", says = "BAD_VALUE if rank is out of range")
    static void guestRankOutOfRange() {
        for (int rank : Twins.outside(1, 9)) {
            Twins.refused("guest(1, " + rank + ")", BAD_VALUE, Rooms::evening, r -> r.guest(1, rank));
        }
        Due.is("rank 1", Rooms.evening().guest(1, 1), 5);
        Due.is("rank 9", Rooms.evening().guest(1, 9), 5);
    }

    @Sentence(of = "Promise 3", says = "TOO_MANY if there have been 10 guests")
    static void guestAfter10Guests() {
        PauseLexicons room = Rooms.full();
        room.undo();
        Due.is("the tenth", room.guest(2, 9), 9);
        Due.is("the tenth is there", room.table(2, 0), 512);
        Twins.refused("the eleventh", TOO_MANY, Rooms::full, r -> r.guest(0, 5));
        Twins.refused("the eleventh at an empty table", TOO_MANY, Rooms::full, r -> r.guest(2, 5));
        for (int guest = 0; guest < 10; guest++) {
            room.leave(guest);
        }
        Due.is("the eleventh when all ten have left", room.guest(0, 5), TOO_MANY);
        Twins.undo(room, 6);
        room.save(0);
        room.restore(0);
        Due.is("the eleventh of a saved room", room.guest(0, 5), TOO_MANY);
    }

    @Sentence(of = "Promise 3",
        says = "NO_SUCH if there is no such table; BAD_VALUE if rank is out of range; TOO_MANY if "
        + "there have been 10 guests", order = true)
    static void guestErrorsInTheirOrder() {
        Twins.refused("no such table, rank 0", NO_SUCH, Rooms::evening, r -> r.guest(3, 0));
        Twins.refused("no such table, rank 10, the eleventh", NO_SUCH, Rooms::full, r -> r.guest(-1, 10));
        Twins.refused("no such table, the eleventh", NO_SUCH, Rooms::full, r -> r.guest(3, 5));
        Twins.refused("rank 0, the eleventh", BAD_VALUE, Rooms::full, r -> r.guest(0, 0));
        Twins.refused("rank 10, the eleventh", BAD_VALUE, Rooms::full, r -> r.guest(2, 10));
    }

    // ---- Promise 4: leave

    @Sentence(of = "Promise 4", says = "A guest leaves the room, for good")
    static void leaveForGood() {
        PauseLexicons room = Rooms.evening();
        Due.is("has no table", room.of(4, 0), NONE);
        Due.is("does not come back", room.move(4, 0), NOT_POSSIBLE);
        Due.is("is not there", room.count(1), 0b01111);
        Due.is("is of no company", room.table(0, 0), 0b00111);
        Due.is("the next guest is another one", room.guest(0, 9), 5);
        Due.is("is still not there", room.of(4, 0), NONE);
    }

    @Sentence(of = "Promise 4", says = "a pause at a table without guests then is over, without an end that is told")
    static void leaveOfTheLastOneEndsThePause() {
        PauseLexicons room = Rooms.with(0, 5, 0, 5, 1, 5);
        room.pause(0);
        room.pause(1);
        room.pass(9);
        room.leave(0);
        Due.is("one stays: it goes on", room.table(0, 3), 9);
        room.leave(1);
        Due.is("nobody stays: it is over", room.table(0, 3), NONE);
        Due.is("it means nothing", room.table(0, 4), NONE);
        Due.is("no end is told", room.end(0, 0), NO_SUCH);
        Due.is("nor counted", room.table(0, 5) + room.count(3) + room.count(4) + room.count(5), 0);
        Due.is("nothing was meant", room.count(7), 0);
        Due.is("another table's goes on", room.table(1, 3), 9);
        Due.is("a new guest has none", room.guest(0, 5) * 100 + room.table(0, 3), 300 + NONE);
        Due.is("but may begin one", room.pause(0) * 100 + room.table(0, 3), 100);
    }

    @Sentence(of = "Promise 4", says = "This is a change.")
    static void leaveIsAChange() {
        isAChange("leave(1)", 1, BoundariesOfChanges::pair, r -> r.leave(1));
    }

    @Sentence(of = "Promise 4", says = "Returns how many are at that table then")
    static void leaveReturnsHowManyStay() {
        PauseLexicons room = Rooms.full();
        room.move(9, 2);
        for (int guest = 0; guest < 9; guest++) {
            Due.is("after guest " + guest, room.leave(guest), 8 - guest);
        }
        Due.is("the last one of all", room.leave(9), 0);
    }

    @Sentence(of = "Promise 4", says = "NO_SUCH if there is no such guest")
    static void leaveNoSuchGuest() {
        refusesGuests(a -> a.room().leave(a.value()), "leave");
        Due.is("guest 0", Rooms.full().leave(0), 9);
        Due.is("guest 9", Rooms.full().leave(9), 9);
    }

    @Sentence(of = "Promise 4", says = "NOT_POSSIBLE if the guest has left")
    static void leaveHasLeft() {
        Twins.refused("leave(4)", NOT_POSSIBLE, Rooms::evening, r -> r.leave(4));
        PauseLexicons room = Rooms.with(0, 5);
        room.leave(0);
        Due.is("the only one", room.leave(0), NOT_POSSIBLE);
        room.undo();
        Due.is("after undo there again", room.leave(0), 0);
    }

    @Sentence(of = "Promise 4",
        says = "NO_SUCH if there is no such guest; NOT_POSSIBLE if the guest has left", order = true)
    static void leaveErrorsInTheirOrder() {
        PauseLexicons room = Rooms.with(0, 5);
        room.leave(0);
        Due.is("the one who has left", room.leave(0), NOT_POSSIBLE);
        Due.is("one who never came", room.leave(1), NO_SUCH);
    }

    // ---- Promise 5: move

    @Sentence(of = "Promise 5", says = "A guest goes to another table")
    static void moveToAnotherTable() {
        PauseLexicons room = Rooms.evening();
        Due.is("to table 2", room.move(1, 2), 0);
        Due.is("is there", room.of(1, 0) * 10 + room.table(2, 1), 21);
        Due.is("is not here", room.table(0, 0), 0b101);
        Due.is("an empty one", room.table(2, 0), 0b010);
        Due.is("to table 0", room.move(1, 0), 2);
        Due.is("is here again", room.table(0, 0), 0b111);
    }

    @Sentence(of = "Promise 5", says = "a pause there, where the guest was, goes on, or is over as for leave()")
    static void moveOfTheLastOneEndsThePause() {
        PauseLexicons room = Rooms.with(0, 5, 0, 5, 1, 5);
        room.pause(0);
        room.pass(9);
        room.move(0, 1);
        Due.is("one stays: it goes on", room.table(0, 3), 9);
        Due.is("it does not come along", room.table(1, 3), NONE);
        room.move(1, 1);
        Due.is("nobody stays: it is over", room.table(0, 3), NONE);
        Due.is("no end is told", room.end(0, 0), NO_SUCH);
        Due.is("nor counted", room.table(0, 5) + room.count(3) + room.count(4) + room.count(5), 0);
        room.move(1, 0);
        Due.is("who comes back has none", room.table(0, 3), NONE);
        Due.is("but may begin one", room.pause(0), 1);
    }

    @Sentence(of = "Promise 5", says = "This is a change.")
    static void moveIsAChange() {
        isAChange("move(1, 2)", 0, BoundariesOfChanges::pair, r -> r.move(1, 2));
    }

    @Sentence(of = "Promise 5", says = "Returns the table where the guest was")
    static void moveReturnsTheTableBefore() {
        PauseLexicons room = Rooms.with(2, 5);
        Due.is("from 2", room.move(0, 0), 2);
        Due.is("from 0", room.move(0, 1), 0);
        Due.is("from 1", room.move(0, 2), 1);
    }

    @Sentence(of = "Promise 5", says = "NO_SUCH if there is no such guest or table")
    static void moveNoSuchGuestOrTable() {
        refusesGuests(a -> a.room().move(a.value(), 1), "move");
        refusesTables(a -> a.room().move(0, a.value()), "move");
        Twins.refused("neither guest nor table", NO_SUCH, Rooms::evening, r -> r.move(5, 3));
        Due.is("guest 0", Rooms.full().move(0, 2), 0);
        Due.is("guest 9", Rooms.full().move(9, 2), 0);
        Due.is("table 0", Rooms.evening().move(3, 0), 1);
        Due.is("table 2", Rooms.evening().move(3, 2), 1);
    }

    @Sentence(of = "Promise 5", says = "NOT_POSSIBLE if the guest has left, or is there")
    static void moveHasLeftOrIsThere() {
        for (int table = 0; table < 3; table++) {
            int to = table;
            Twins.refused("has left", NOT_POSSIBLE, Rooms::evening, r -> r.move(4, to));
        }
        Twins.refused("is there", NOT_POSSIBLE, Rooms::evening, r -> r.move(0, 0));
        Twins.refused("is there alone", NOT_POSSIBLE, Rooms::evening, r -> r.move(3, 1));
        Twins.refused("is there, and keeps a pause alone", NOT_POSSIBLE, Rooms::late, r -> r.move(0, 0));
    }

    @Sentence(of = "Promise 5",
        says = "NO_SUCH if there is no such guest or table; NOT_POSSIBLE if the guest has left, or "
        + "is there", order = true)
    static void moveErrorsInTheirOrder() {
        Twins.refused("no such table, has left", NO_SUCH, Rooms::evening, r -> r.move(4, 3));
        Twins.refused("table -1, has left", NO_SUCH, Rooms::evening, r -> r.move(4, -1));
        Twins.refused("the table NONE, has left", NO_SUCH, Rooms::evening, r -> r.move(4, NONE));
    }

    // ---- Promise 6: pause

    @Sentence(of = "Promise 6", says = "This is a change.")
    static void pauseIsAChange() {
        isAChange("pause(1)", 1, () -> Rooms.with(1, 5), r -> r.pause(1));
    }

    @Sentence(of = "Promise 6", says = "Returns the company of the table")
    static void pauseReturnsTheCompany() {
        for (int company = 1; company <= 4; company++) {
            Due.is("company " + company, Rooms.company(company).pause(0), company);
        }
        Due.is("ten of one rank", Rooms.full().pause(0), 3);
    }

    @Sentence(of = "Promise 6", says = "NO_SUCH if there is no such table")
    static void pauseNoSuchTable() {
        refusesTables(a -> a.room().pause(a.value()), "pause");
        PauseLexicons room = Rooms.with(0, 5, 2, 5);
        Due.is("table 0", room.pause(0), 1);
        Due.is("table 2", room.pause(2), 1);
    }

    @Sentence(of = "Promise 6", says = "NOT_POSSIBLE if there is a pause, or nobody")
    static void pauseTwiceOrOfNobody() {
        Twins.refused("of 8 seconds", NOT_POSSIBLE, Rooms::evening, r -> r.pause(0));
        Twins.refused("of 0 seconds", NOT_POSSIBLE, () -> begun(1), r -> r.pause(1));
        Twins.refused("nobody came", NOT_POSSIBLE, Rooms::evening, r -> r.pause(2));
        PauseLexicons room = Rooms.with(2, 5);
        room.leave(0);
        Due.is("nobody stays", room.pause(2), NOT_POSSIBLE);
        room.undo();
        Due.is("somebody is there, no pause", room.pause(2), 1);
        room.close(2);
        Due.is("the one before has ended", room.pause(2), 1);
    }

    @Sentence(of = "Promise 6", says = "NO_SUCH if there is no such table; NOT_POSSIBLE if there is a pause, or nobody",
        order = true)
    static void pauseErrorsInTheirOrder() {
        Twins.refused("nobody at the last table", NOT_POSSIBLE, PauseLexicons::new, r -> r.pause(2));
        Twins.refused("nobody at a table that is none", NO_SUCH, PauseLexicons::new, r -> r.pause(3));
    }

    private static PauseLexicons begun(int table) {
        PauseLexicons room = Rooms.with(table, 5);
        room.pause(table);
        return room;
    }

    // ---- Promise 7: close

    @Sentence(of = "Promise 7", says = "This is a change.")
    static void closeIsAChange() {
        isAChange("close(0)", 3, BoundariesOfChanges::pair, r -> r.close(0));
        isAChange("close(1), which has meant nothing", 0, () -> begun(1), r -> r.close(1));
    }

    @Sentence(of = "Promise 7", says = "Returns what it has meant, 0 to 11")
    static void closeReturnsWhatItHasMeant() {
        PauseLexicons court = Rooms.company(4);
        int[] seconds = {0, 2, 3, 10, 11, 14, 15, 99};
        int[] due = {0, 0, 9, 9, 10, 10, 11, 11};
        for (int i = 0; i < due.length; i++) {
            court.pause(0);
            Rooms.pass(court, seconds[i]);
            Due.is("after " + seconds[i], court.close(0), due[i]);
            Due.is("as it is told", court.end(0, 3), due[i]);
        }
        Due.is("the longest one there can be", Rooms.late().close(0), 2);
    }

    @Sentence(of = "Promise 7", says = "NO_SUCH if there is no such table")
    static void closeNoSuchTable() {
        refusesTables(a -> a.room().close(a.value()), "close");
        Due.is("table 0", begun(0).close(0), 0);
        Due.is("table 2", begun(2).close(2), 0);
    }

    @Sentence(of = "Promise 7", says = "NOT_POSSIBLE if there is no pause")
    static void closeNoPause() {
        Twins.refused("one guest without a pause", NOT_POSSIBLE, Rooms::evening, r -> r.close(1));
        Twins.refused("nobody", NOT_POSSIBLE, Rooms::evening, r -> r.close(2));
        PauseLexicons room = begun(0);
        Due.is("one of 0 seconds", room.close(0), 0);
        Due.is("it is closed", room.close(0), NOT_POSSIBLE);
        room.pause(0);
        room.word(0);
        Due.is("it is broken", room.close(0), NOT_POSSIBLE);
        room.pause(0);
        room.leave(0);
        Due.is("it is over", room.close(0), NOT_POSSIBLE);
    }

    @Sentence(of = "Promise 7",
        says = "NO_SUCH if there is no such table; NOT_POSSIBLE if there is no pause", order = true)
    static void closeErrorsInTheirOrder() {
        Twins.refused("no pause at the last table", NOT_POSSIBLE, PauseLexicons::new, r -> r.close(2));
        Twins.refused("no pause at a table that is none", NO_SUCH, PauseLexicons::new, r -> r.close(3));
    }

    // ---- Promise 8: word

    @Sentence(of = "Promise 8", says = "This is a change.")
    static void wordIsAChange() {
        isAChange("word(0)", 1, BoundariesOfChanges::pair, r -> r.word(0));
    }

    @Sentence(of = "Promise 8", says = "Returns the faults of the guest then")
    static void wordReturnsTheFaults() {
        PauseLexicons room = Rooms.with(0, 5, 0, 6);
        room.set(SHAME, 9);
        for (int times = 1; times <= 20; times++) {
            room.pause(0);
            Due.is("of one who is no host, " + times, room.word(0), 9 * times);
        }
        room.pause(0);
        Due.is("of the host, who has answered for them", room.word(1), 20 + 9);
    }

    @Sentence(of = "Promise 8", says = "NO_SUCH if there is no such guest")
    static void wordNoSuchGuest() {
        refusesGuests(a -> a.room().word(a.value()), "word");
        for (int guest : new int[] {0, 9}) {
            PauseLexicons room = Rooms.full();
            room.pause(0);
            Due.is("guest " + guest, room.word(guest), 1);
        }
    }

    @Sentence(of = "Promise 8", says = "NOT_POSSIBLE if the guest has left, or there is no pause")
    static void wordHasLeftOrNoPause() {
        Twins.refused("has left", NOT_POSSIBLE, Rooms::evening, r -> r.word(4));
        Twins.refused("no pause at the own table", NOT_POSSIBLE, Rooms::evening, r -> r.word(3));
        PauseLexicons room = begun(0);
        Due.is("one of 0 seconds", room.word(0), 1);
        Due.is("it is broken", room.word(0), NOT_POSSIBLE);
    }

    @Sentence(of = "Promise 8",
        says = "NO_SUCH if there is no such guest; NOT_POSSIBLE if the guest has left, or there "
        + "is no pause", order = true)
    static void wordErrorsInTheirOrder() {
        Twins.refused("a guest, no pause", NOT_POSSIBLE, Rooms::company1, r -> r.word(0));
        Twins.refused("no guest, no pause", NO_SUCH, Rooms::company1, r -> r.word(1));
    }

    // ---- Promise 9: cough

    @Sentence(of = "Promise 9", says = "This is a change.")
    static void coughIsAChange() {
        isAChange("cough(0)", 1, BoundariesOfChanges::pair, r -> r.cough(0));
        isAChange("cough(0), which nobody lends", NONE, () -> begun(0), r -> r.cough(0));
    }

    @Sentence(of = "Promise 9", says = "Returns the guest who lent it (NONE if nobody did)")
    static void coughReturnsWhoLentIt() {
        PauseLexicons room = Rooms.full();
        room.pause(0);
        Due.is("guest 0", room.cough(9), 0);
        for (int guest = 0; guest < 9; guest++) {
            room.leave(guest);
        }
        room.pause(0);
        Due.is("nobody else is there", room.cough(9), NONE);
        room.undo();
        Due.is("as lender() tells before", room.lender(9), NONE);
        PauseLexicons two = Rooms.full();
        for (int guest = 0; guest < 8; guest++) {
            two.leave(guest);
        }
        two.pause(0);
        Due.is("guest 9", two.cough(8), 9);
    }

    @Sentence(of = "Promise 9", says = "NO_SUCH if there is no such guest")
    static void coughNoSuchGuest() {
        refusesGuests(a -> a.room().cough(a.value()), "cough");
        for (int guest : new int[] {0, 9}) {
            PauseLexicons room = Rooms.full();
            room.pause(0);
            Due.is("guest " + guest, room.cough(guest), guest == 0 ? 1 : 0);
        }
    }

    @Sentence(of = "Promise 9", says = "NOT_POSSIBLE if the guest has left, or there is no pause")
    static void coughHasLeftOrNoPause() {
        Twins.refused("has left", NOT_POSSIBLE, Rooms::evening, r -> r.cough(4));
        Twins.refused("no pause at the own table", NOT_POSSIBLE, Rooms::evening, r -> r.cough(3));
        PauseLexicons room = begun(0);
        Due.is("one of 0 seconds", room.cough(0), NONE);
        Due.is("it is broken", room.cough(0), NOT_POSSIBLE);
    }

    @Sentence(of = "Promise 9",
        says = "NO_SUCH if there is no such guest; NOT_POSSIBLE if the guest has left, or there "
        + "is no pause", order = true)
    static void coughErrorsInTheirOrder() {
        Twins.refused("a guest, no pause", NOT_POSSIBLE, Rooms::company1, r -> r.cough(0));
        Twins.refused("no guest, no pause", NO_SUCH, Rooms::company1, r -> r.cough(1));
    }

    // ---- Promise 10: pass

    @Sentence(of = "Promise 10", says = "Seconds pass at all tables.")
    static void passAtAllTables() {
        PauseLexicons room = Rooms.with(0, 5, 1, 5, 2, 5);
        room.pause(0);
        room.pause(2);
        room.pass(99);
        Due.is("the first table", room.table(0, 3), 99);
        Due.is("one without a pause", room.table(1, 3), NONE);
        Due.is("the last table", room.table(2, 3), 99);
        Due.is("the room", room.count(0), 99);
    }

    @Sentence(of = "Promise 10", says = "This is a change.")
    static void passIsAChange() {
        isAChange("pass(99)", 1, BoundariesOfChanges::pair, r -> r.pass(99));
    }

    @Sentence(of = "Promise 10", says = "`seconds`: 1 to 99")
    static void pass1To99() {
        PauseLexicons room = new PauseLexicons();
        int time = 0;
        for (int seconds : new int[] {1, 2, 98, 99}) {
            Due.is(seconds + " seconds", room.pass(seconds), 0);
            time += seconds;
            Due.is("the time", room.count(0), time);
        }
    }

    @Sentence(of = "Promise 10", says = "Returns how many pauses mean something then")
    static void passReturnsHowManyMean() {
        PauseLexicons room = Rooms.with(0, 5, 1, 5, 2, 5);
        Due.is("no pause", room.pass(9), 0);
        room.pause(0);
        Due.is("one second too short", room.pass(2), 0);
        room.pause(1);
        Due.is("one of two", room.pass(1), 1);
        room.pause(2);
        Due.is("two of three", room.pass(2), 2);
        Due.is("all three", room.pass(1), 3);
        room.close(1);
        Due.is("not one that has ended", room.pass(99), 2);
        room.set(SHORT, 20);
        Due.is("by the settings then", room.pass(1), 2);
    }

    @Sentence(of = "Promise 10", says = "BAD_VALUE if seconds is out of range")
    static void passSecondsOutOfRange() {
        for (int seconds : Twins.outside(1, 99)) {
            Twins.refused("pass(" + seconds + ")", BAD_VALUE, Rooms::evening, r -> r.pass(seconds));
        }
    }

    @Sentence(of = "Promise 10", says = "NOT_POSSIBLE if the time would be above 9999")
    static void passAbove9999() {
        for (int seconds : new int[] {1, 2, 98, 99}) {
            Twins.refused(seconds + " at the time 9999", NOT_POSSIBLE, Rooms::late, r -> r.pass(seconds));
            Twins.refused(seconds + " with one less left", NOT_POSSIBLE, () -> at(9999 - seconds + 1),
                r -> r.pass(seconds));
            PauseLexicons room = at(9999 - seconds);
            Due.is(seconds + " to the time 9999", room.pass(seconds), 0);
            Due.is("the last time", room.count(0), 9999);
        }
        PauseLexicons late = Rooms.late();
        Due.is("a pause may begin at the last time", late.close(0) * 10 + late.pause(0), 21);
    }

    private static PauseLexicons at(int time) {
        PauseLexicons room = new PauseLexicons();
        Rooms.pass(room, time);
        return room;
    }

    @Sentence(of = "Promise 10", says = "BAD_VALUE if seconds is out of range; NOT_POSSIBLE if the time would be above "
        + "9999", order = true)
    static void passErrorsInTheirOrder() {
        Twins.refused("100 at the time 9999", BAD_VALUE, Rooms::late, r -> r.pass(100));
        Twins.refused("0 at the time 9999", BAD_VALUE, Rooms::late, r -> r.pass(0));
        Twins.refused("the highest int at the time 9999", BAD_VALUE, Rooms::late, r -> r.pass(HIGH));
        Twins.refused("10000 at the time 0", BAD_VALUE, PauseLexicons::new, r -> r.pass(10000));
    }
}
