import java.util.function.ToIntFunction;

/** Boundaries that promises 25 to 27 name. */
final class BoundariesOfStates implements Codes {
    private BoundariesOfStates() {
    }

    /** A room in which that many changes have been made, each of a second. */
    private static PauseLexicons changed(int changes) {
        PauseLexicons room = new PauseLexicons();
        for (int i = 0; i < changes; i++) {
            room.pass(1);
        }
        return room;
    }

    // ---- Promise 25: undo

    @Sentence(of = "Promise 25", says = "Undoes the latest change: everything except the pad, the slots and the "
        + "history is as it was before it")
    static void undoLeavesPadAndSlots() {
        PauseLexicons room = Rooms.with(0, 5);
        room.save(0);
        room.pass(5);
        room.save(1);
        Due.write(room, "t1");
        Due.is("undone", room.undo(), 1);
        Due.is("the pad stays", room.count(13), 2);
        Due.is("the time does not", room.count(0), 0);
        room.undo();
        Due.is("the guest does not", room.of(0, 0), NO_SUCH);
        Due.is("slot 1 stays", room.restore(1) * 10 + room.count(0), 15);
        Due.is("slot 0 stays", room.restore(0) * 10 + room.count(0), 10);
        Due.is("the text stays", room.carryOut(), 1);
        room.undo();
        Due.is("the pad that was carried out does not come back", room.count(13), 0);
        room.undo();
        Due.is("a restore is undone", room.count(0), 5);
    }

    @Sentence(of = "Promise 25", says = "A history of at most 6 states is kept")
    static void undoOfAtMost6() {
        for (int changes = 0; changes <= 8; changes++) {
            PauseLexicons room = changed(changes);
            int kept = Math.min(changes, 6);
            for (int left = kept - 1; left >= 0; left--) {
                Due.is("undo " + (kept - left) + " of " + changes, room.undo(), left);
                Due.is("the time then", room.count(0), changes - kept + left);
            }
            Due.is("one more of " + changes, room.undo(), NOT_POSSIBLE);
            Due.is("changes nothing", room.count(0), changes - kept);
        }
    }

    @Sentence(of = "Promise 25",
        says = "each method that is a change, and returns no error, records the state before it")
    static void undoRecordsNoErrorsAndNoQuestions() {
        PauseLexicons room = Rooms.evening();
        room.undo();
        room.undo();
        Due.is("four are left", room.count(14), 4);
        int[] errors = {room.set(4, 1), room.guest(3, 1), room.leave(9), room.move(0, 0), room.pause(3), room.close(1),
            room.word(9), room.cough(9), room.pass(0), room.restore(1), room.save(2), room.put(0)};
        for (int error : errors) {
            Due.holds("an error", error <= -1 && error >= -5);
        }
        Due.is("none of them is recorded", room.count(14), 4);
        room.of(0, 0);
        room.table(0, 0);
        room.wouldMean(0, 5);
        room.turnsIn(0);
        room.lender(0);
        room.usual();
        room.fault();
        room.save(1);
        room.put('x');
        room.wipe();
        Due.is("nor is what is no change", room.count(14), 4);
        room.undo();
        Due.is("nor undo itself", room.count(14), 3);
    }

    @Sentence(of = "Promise 25", says = "(also if nothing is different then)")
    static void undoRecordsWhatIsNotDifferent() {
        recordsTheSame("set", r -> r.set(SHORT, 3));
        recordsTheSame("restore", r -> r.restore(0));
        recordsTheSame("carryOut", r -> {
            Due.write(r, "t0");
            return r.carryOut();
        });
    }

    private static void recordsTheSame(String name, ToIntFunction<PauseLexicons> call) {
        PauseLexicons room = Rooms.with(0, 5);
        room.save(0);
        call.applyAsInt(room);
        Due.is(name + " is recorded", room.count(14), 2);
        Due.is(name + " is undone", room.undo(), 1);
        Due.is("the guest is there still", room.count(1), 1);
    }

    @Sentence(of = "Promise 25", says = "when one more is recorded, the oldest one is dropped")
    static void undoDropsTheOldest() {
        PauseLexicons room = changed(6);
        Due.is("the sixth", room.count(14), 6);
        room.pass(1);
        Due.is("the seventh", room.count(14), 6);
        Due.is("six can be undone", Twins.undo(room, 6), 0);
        Due.is("to the state after the first", room.count(0), 1);
        Due.is("the first cannot", room.undo(), NOT_POSSIBLE);
        PauseLexicons full = changed(6);
        Due.is("six can be undone", Twins.undo(full, 6), 0);
        Due.is("to the state before the first", full.count(0), 0);
        for (int round = 0; round < 10; round++) {
            full.pass(1);
            full.pass(1);
            full.undo();
        }
        Due.is("again and again", full.count(14) * 100 + full.count(0), 510);
        Due.is("to the five that are kept", Twins.undo(full, 5) * 100 + full.count(0), 5);
    }

    @Sentence(of = "Promise 25", says = "An order of a text records nothing by itself.")
    static void undoNotOfAnOrder() {
        PauseLexicons room = changed(3);
        Due.write(room, "t1;t1;t1;t1;t1;t1;t1;t1");
        Due.is("eight orders", room.carryOut(), 8);
        Due.is("one change more", room.count(14), 4);
        Due.is("undone at once", room.undo() * 100 + room.count(0), 303);
        Due.write(room, "t1;t1;t0");
        Due.is("two of three orders", room.carryOut(), 2);
        Due.is("one change more", room.count(14), 4);
        Due.is("undone at once", room.undo() * 100 + room.count(0), 303);
    }

    @Sentence(of = "Promise 25", says = "Returns how many changes can be undone then")
    static void undoReturnsHowManyAreLeft() {
        PauseLexicons room = changed(9);
        for (int left = 5; left >= 0; left--) {
            Due.is("left", room.undo(), left);
            Due.is("as count(14) tells", room.count(14), left);
        }
    }

    @Sentence(of = "Promise 25", says = "NOT_POSSIBLE if there is none")
    static void undoOfNone() {
        Twins.refused("a new room", NOT_POSSIBLE, PauseLexicons::new, PauseLexicons::undo);
        Twins.refused("all are undone", NOT_POSSIBLE, Rooms::undone, PauseLexicons::undo);
        Twins.refused("only errors", NOT_POSSIBLE, BoundariesOfStates::refusedOnly, PauseLexicons::undo);
        PauseLexicons room = Rooms.undone();
        room.undo();
        Due.is("a new change", room.pass(1), 0);
        Due.is("it can be undone", room.undo(), 0);
    }

    private static PauseLexicons refusedOnly() {
        PauseLexicons room = new PauseLexicons();
        room.pass(0);
        room.guest(3, 1);
        room.save(0);
        return room;
    }

    // ---- Promise 26: save

    @Sentence(of = "Promise 26", says = "Saves everything except the pad, the history and the slots in a slot")
    static void saveWithoutPadHistoryAndSlots() {
        PauseLexicons room = Rooms.with(0, 5);
        Due.write(room, "t1");
        room.save(0);
        room.wipe();
        room.pass(1);
        room.save(1);
        room.restore(0);
        Due.is("not the pad", room.count(13), 0);
        Due.is("not the history", room.count(14), 3);
        Due.is("not the other slot", room.restore(1), 1);
        Due.is("which was saved later", room.count(0), 1);
        PauseLexicons twin = Rooms.evening();
        twin.save(1);
        twin.restore(1);
        twin.undo();
        PauseLexicons evening = Rooms.evening();
        evening.set(SHORT, 3);
        evening.undo();
        Twins.same("everything else", evening, twin);
    }

    @Sentence(of = "Promise 26", says = "and overwrites what was saved there")
    static void saveOverwrites() {
        PauseLexicons room = Rooms.evening();
        room.save(1);
        room.save(0);
        PauseLexicons twin = Rooms.evening();
        twin.save(1);
        Due.is("the one before is gone", room.restore(0), twin.restore(1));
        Twins.same("as what was saved", room, twin);
        PauseLexicons less = Rooms.full();
        less.save(0);
        Twins.undo(less, 6);
        Due.is("less is saved over more", less.save(0), 4);
        less.restore(0);
        Due.is("nothing of more stays", less.of(4, 0), NO_SUCH);
    }

    @Sentence(of = "Promise 26", says = "`slot`: 0 or 1")
    static void saveSlot0Or1() {
        PauseLexicons room = new PauseLexicons();
        room.pass(10);
        Due.is("slot 0", room.save(0), 0);
        room.pass(20);
        Due.is("slot 1", room.save(1), 0);
        room.pass(30);
        room.restore(0);
        Due.is("of slot 0", room.count(0), 10);
        room.restore(1);
        Due.is("of slot 1", room.count(0), 30);
    }

    @Sentence(of = "Promise 26", says = "Returns how many guests there have been")
    static void saveReturnsHowManyGuests() {
        PauseLexicons room = new PauseLexicons();
        for (int guests = 0; guests <= 10; guests++) {
            Due.is("guests", room.save(guests % 2), guests);
            room.guest(guests % 3, 5);
        }
        room.leave(0);
        room.leave(9);
        Due.is("also those who left", room.save(0), 10);
    }

    @Sentence(of = "Promise 26", says = "BAD_VALUE if there is no such slot")
    static void saveNoSuchSlot() {
        for (int slot : Twins.outside(0, 1)) {
            Twins.refused("save(" + slot + ")", BAD_VALUE, Rooms::evening, r -> r.save(slot));
        }
    }

    // ---- Promise 27: restore

    @Sentence(of = "Promise 27", says = "Restores what was saved last in a slot, which keeps it.")
    static void restoreKeepsIt() {
        PauseLexicons room = Rooms.evening();
        room.save(1);
        for (int times = 0; times < 3; times++) {
            room.word(1);
            room.leave(0);
            room.set(STEP, 20);
            room.guest(2, 9);
            Due.is("five guests then", room.restore(1), 5);
            Due.is("no faults of later", room.of(1, 2), 0);
            Due.is("nobody has left later", room.count(1), 0b01111);
            Due.is("the setting as it was", room.count(10), 4);
            Due.is("the pause as it was", room.table(0, 3), 8);
            Due.is("no end of later", room.end(0, 0) * 10 + room.count(4), 21);
        }
        room.pass(1);
        room.save(1);
        room.pass(1);
        room.restore(1);
        Due.is("what was saved last", room.count(0), 13);
    }

    @Sentence(of = "Promise 27", says = "Restores what was saved last in a slot")
    static void restoreOfAnotherGuestOfThatNumber() {
        PauseLexicons room = Rooms.with(0, 5);
        room.save(0);
        room.undo();
        room.set(LEND, 9);
        room.guest(1, 8);
        room.restore(0);
        Due.is("table, rank and coughs of the one saved", tableRankCoughs(room), 52);
        room.undo();
        Due.is("of the other one, after undo", tableRankCoughs(room), 189);
    }

    private static int tableRankCoughs(PauseLexicons room) {
        return room.of(0, 0) * 100 + room.of(0, 1) * 10 + room.of(0, 3);
    }

    @Sentence(of = "Promise 27", says = "This is a change.")
    static void restoreIsAChange() {
        BoundariesOfChanges.isAChange("restore(0)", 1, BoundariesOfStates::saved, r -> r.restore(0));
    }

    private static PauseLexicons saved() {
        PauseLexicons room = Rooms.with(0, 5);
        room.save(0);
        room.pass(9);
        return room;
    }

    @Sentence(of = "Promise 27", says = "`slot`: 0 or 1")
    static void restoreSlot0Or1() {
        PauseLexicons room = new PauseLexicons();
        room.save(0);
        room.guest(0, 5);
        room.save(1);
        Due.is("slot 0", room.restore(0), 0);
        Due.is("slot 1", room.restore(1), 1);
    }

    @Sentence(of = "Promise 27", says = "Returns how many guests there have been then")
    static void restoreReturnsHowManyGuests() {
        PauseLexicons room = new PauseLexicons();
        for (int guests = 0; guests <= 10; guests++) {
            room.save(0);
            room.guest(0, 5);
            Due.is("guests", room.restore(0), guests);
            room.guest(0, 5);
        }
        room.leave(0);
        room.save(1);
        Due.is("also those who left", room.restore(1), 10);
    }

    @Sentence(of = "Promise 27", says = "BAD_VALUE if there is no such slot")
    static void restoreNoSuchSlot() {
        for (int slot : Twins.outside(0, 1)) {
            Twins.refused("restore(" + slot + ")", BAD_VALUE, Rooms::evening, r -> r.restore(slot));
        }
    }

    @Sentence(of = "Promise 27", says = "NOT_POSSIBLE if nothing was saved in it")
    static void restoreNothingSaved() {
        Twins.refused("slot 0 of a new room", NOT_POSSIBLE, PauseLexicons::new, r -> r.restore(0));
        Twins.refused("slot 1 of a new room", NOT_POSSIBLE, PauseLexicons::new, r -> r.restore(1));
        Twins.refused("slot 1, slot 0 is saved", NOT_POSSIBLE, Rooms::evening, r -> r.restore(1));
        Twins.refused("slot 0, slot 1 is saved", NOT_POSSIBLE, () -> savedIn(1), r -> r.restore(0));
        Due.is("an empty room was saved", savedIn(1).restore(1), 0);
    }

    private static PauseLexicons savedIn(int slot) {
        PauseLexicons room = new PauseLexicons();
        room.save(slot);
        return room;
    }

    @Sentence(of = "Promise 27", says = "BAD_VALUE if there is no such slot; NOT_POSSIBLE if nothing was saved in it",
        order = true)
    static void restoreErrorsInTheirOrder() {
        Twins.refused("slot 2 of a new room", BAD_VALUE, PauseLexicons::new, r -> r.restore(2));
        Twins.refused("slot -1 of a new room", BAD_VALUE, PauseLexicons::new, r -> r.restore(-1));
    }
}
