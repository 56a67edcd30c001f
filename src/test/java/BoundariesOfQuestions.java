import java.util.function.Supplier;
import java.util.function.ToIntFunction;

/** Boundaries that promises 11 to 20 name. */
final class BoundariesOfQuestions implements Codes {
    private BoundariesOfQuestions() {
    }

    private static void refusesWhats(int highest, ToIntFunction<BoundariesOfChanges.Asked> call) {
        for (int what : Twins.outside(0, highest)) {
            Twins.refused("what " + what, BAD_VALUE, Rooms::evening,
                room -> call.applyAsInt(new BoundariesOfChanges.Asked(room, what)));
        }
    }

    private static void pauseOf(PauseLexicons room, int table, int seconds) {
        room.pause(table);
        Rooms.pass(room, seconds);
    }

    // ---- Promise 11: of

    @Sentence(of = "Promise 11", says = "0 the table (NONE if the guest has left)")
    static void ofTable() {
        PauseLexicons room = Rooms.with(0, 5, 2, 5);
        Due.is("the first table", room.of(0, 0), 0);
        Due.is("the last table", room.of(1, 0), 2);
        room.leave(0);
        Due.is("has left", room.of(0, 0), NONE);
        room.undo();
        Due.is("has not left", room.of(0, 0), 0);
    }

    @Sentence(of = "Promise 11", says = "1 the rank, 2 faults, 3 coughs to lend")
    static void ofWhoHasLeft() {
        PauseLexicons room = Rooms.with(0, 9, 0, 1);
        pauseOf(room, 0, 1);
        room.word(0);
        pauseOf(room, 0, 1);
        room.cough(1);
        room.leave(0);
        Due.is("the rank stays", room.of(0, 1), 9);
        Due.is("the faults stay", room.of(0, 2), 1);
        Due.is("the coughs stay", room.of(0, 3), 1);
        Due.is("the breaks stay", room.of(0, 5), 1);
        Due.is("what was borrowed stays", room.of(0, 6), 1);
    }

    @Sentence(of = "Promise 11", says = "4 whether the guest is a host (1 or 0)")
    static void ofHost() {
        PauseLexicons room = Rooms.with(0, 5, 0, 5, 1, 1);
        Due.is("the lowest number", room.of(0, 4), 1);
        Due.is("not the other one", room.of(1, 4), 0);
        Due.is("alone", room.of(2, 4), 1);
        room.leave(0);
        Due.is("who has left is none", room.of(0, 4), 0);
        Due.is("the other one then", room.of(1, 4), 1);
        room.move(1, 1);
        Due.is("not at the table of the lowest number", room.of(2, 4), 0);
        Due.is("by the rank there", room.of(1, 4), 1);
    }

    @Sentence(of = "Promise 11", says = "6 coughs that were borrowed from this one so far")
    static void ofCoughsBorrowed() {
        PauseLexicons room = Rooms.with(0, 5, 0, 5);
        for (int cough = 0; cough < 4; cough++) {
            Due.is("before cough " + cough, room.of(1, 6), Math.min(cough, 2));
            pauseOf(room, 0, 1);
            room.cough(0);
        }
        Due.is("not one that nobody lent", room.of(1, 6), 2);
        Due.is("none from who coughed", room.of(0, 6), 0);
    }

    @Sentence(of = "Promise 11", says = "NO_SUCH if there is no such guest")
    static void ofNoSuchGuest() {
        BoundariesOfChanges.refusesGuests(a -> a.room().of(a.value(), 1), "of");
        Due.is("guest 0", Rooms.full().of(0, 1), 5);
        Due.is("guest 9", Rooms.full().of(9, 1), 5);
    }

    @Sentence(of = "Promise 11", says = "BAD_VALUE if what is out of range")
    static void ofWhatOutOfRange() {
        refusesWhats(6, a -> a.room().of(0, a.value()));
        Due.is("what 0", Rooms.evening().of(3, 0), 1);
        Due.is("what 6", Rooms.evening().of(3, 6), 0);
    }

    @Sentence(of = "Promise 11",
        says = "NO_SUCH if there is no such guest; BAD_VALUE if what is out of range", order = true)
    static void ofErrorsInTheirOrder() {
        Twins.refused("of(5, 7)", NO_SUCH, Rooms::evening, r -> r.of(5, 7));
        Twins.refused("of(-1, -1)", NO_SUCH, Rooms::evening, r -> r.of(-1, -1));
    }

    // ---- Promise 12: table

    @Sentence(of = "Promise 12", says = "1 its host (NONE without guests)")
    static void tableHost() {
        PauseLexicons room = Rooms.with(1, 5);
        Due.is("guest 0", room.table(1, 1), 0);
        Due.is("nobody", room.table(0, 1), NONE);
        room.leave(0);
        Due.is("nobody any more", room.table(1, 1), NONE);
        Due.is("nobody is in the set", room.table(1, 0), 0);
        Due.is("nobody is company 0", room.table(1, 2), 0);
    }

    @Sentence(of = "Promise 12", says = "3 the seconds of its pause (NONE without one)")
    static void tableSeconds() {
        PauseLexicons room = Rooms.with(1, 5);
        Due.is("without one", room.table(1, 3), NONE);
        room.pause(1);
        Due.is("0 of one that has begun", room.table(1, 3), 0);
        room.close(1);
        Due.is("without one again", room.table(1, 3), NONE);
        Due.is("at most 9999", Rooms.late().table(0, 3), 9999);
    }

    @Sentence(of = "Promise 12", says = "4 what its pause means now (NONE without one)")
    static void tableMeaning() {
        PauseLexicons room = Rooms.with(1, 5);
        Due.is("without one", room.table(1, 4), NONE);
        room.pause(1);
        Due.is("nothing is 0, not NONE", room.table(1, 4), 0);
        room.pass(3);
        Due.is("thought", room.table(1, 4), 1);
        room.word(0);
        Due.is("without one again", room.table(1, 4), NONE);
    }

    @Sentence(of = "Promise 12", says = "5 pauses that ended there so far (over ones without an end left out)")
    static void tableEnds() {
        PauseLexicons room = Rooms.with(1, 5);
        Due.is("none", room.table(1, 5), 0);
        pauseOf(room, 1, 0);
        room.close(1);
        pauseOf(room, 1, 1);
        room.word(0);
        pauseOf(room, 1, 1);
        room.cough(0);
        Due.is("one of each kind", room.table(1, 5), 3);
        pauseOf(room, 1, 1);
        room.move(0, 2);
        pauseOf(room, 2, 1);
        room.leave(0);
        Due.is("the one that was over is left out", room.table(1, 5), 3);
        Due.is("at the other table, too", room.table(2, 5), 0);
        room.guest(2, 5);
        for (int end = 1; end <= 12; end++) {
            room.pause(2);
            room.close(2);
            Due.is("also more than are told", room.table(2, 5), end);
        }
    }

    @Sentence(of = "Promise 12", says = "NO_SUCH if there is no such table")
    static void tableNoSuchTable() {
        for (int table : Twins.outside(0, 2)) {
            Twins.refused("table(" + table + ", 0)", NO_SUCH, Rooms::evening, r -> r.table(table, 0));
        }
        Due.is("table 0", Rooms.evening().table(0, 0), 0b111);
        Due.is("table 2", Rooms.evening().table(2, 0), 0);
    }

    @Sentence(of = "Promise 12", says = "BAD_VALUE if what is out of range")
    static void tableWhatOutOfRange() {
        refusesWhats(5, a -> a.room().table(0, a.value()));
        Due.is("what 0", Rooms.evening().table(0, 0), 0b111);
        Due.is("what 5", Rooms.evening().table(0, 5), 2);
    }

    @Sentence(of = "Promise 12",
        says = "NO_SUCH if there is no such table; BAD_VALUE if what is out of range", order = true)
    static void tableErrorsInTheirOrder() {
        Twins.refused("table(3, 6)", NO_SUCH, Rooms::evening, r -> r.table(3, 6));
        Twins.refused("table(-1, -1)", NO_SUCH, Rooms::evening, r -> r.table(-1, -1));
    }

    // ---- Promise 13: meaning

    @Sentence(of = "Promise 13", says = "`meaning`: 1 to 11")
    static void meaning1To11() {
        PauseLexicons alone = Rooms.company(1);
        pauseOf(alone, 0, 3);
        alone.close(0);
        Due.is("meaning 1", alone.meaning(1, 0), 1);
        Due.is("meaning 2", alone.meaning(2, 0), 0);
        PauseLexicons court = Rooms.company(4);
        pauseOf(court, 0, 15);
        court.close(0);
        Due.is("meaning 10", court.meaning(10, 0), 0);
        Due.is("meaning 11", court.meaning(11, 0), 1);
    }

    @Sentence(of = "Promise 13", says = "1 the longest pause that meant it (0 if none did)")
    static void meaningLongest() {
        PauseLexicons room = Rooms.company(1);
        for (int meaning = 1; meaning <= 11; meaning++) {
            Due.is("none meant " + meaning, room.meaning(meaning, 1), 0);
        }
        int[] seconds = {5, 4, 6, 6, 3};
        int[] due = {5, 5, 6, 6, 6};
        for (int i = 0; i < due.length; i++) {
            pauseOf(room, 0, seconds[i]);
            room.close(0);
            Due.is("after " + seconds[i], room.meaning(1, 1), due[i]);
        }
        pauseOf(room, 0, 10);
        room.word(0);
        Due.is("a broken one did not", room.meaning(1, 1), 6);
    }

    @Sentence(of = "Promise 13", says = "NO_SUCH if there is no such meaning")
    static void meaningNoSuchMeaning() {
        for (int meaning : Twins.outside(1, 11)) {
            Twins.refused("meaning(" + meaning + ", 0)", NO_SUCH, Rooms::evening, r -> r.meaning(meaning, 0));
            Twins.refused("meaning(" + meaning + ", 1)", NO_SUCH, Rooms::evening, r -> r.meaning(meaning, 1));
        }
    }

    @Sentence(of = "Promise 13", says = "BAD_VALUE if what is out of range")
    static void meaningWhatOutOfRange() {
        refusesWhats(1, a -> a.room().meaning(1, a.value()));
        refusesWhats(1, a -> a.room().meaning(11, a.value()));
    }

    @Sentence(of = "Promise 13", says = "NO_SUCH if there is no such meaning; BAD_VALUE if what is out of range",
        order = true)
    static void meaningErrorsInTheirOrder() {
        Twins.refused("meaning(0, -1)", NO_SUCH, Rooms::evening, r -> r.meaning(0, -1));
        Twins.refused("meaning(12, 2)", NO_SUCH, Rooms::evening, r -> r.meaning(12, 2));
    }

    // ---- Promise 14: end

    @Sentence(of = "Promise 14",
        says = "Returns something of the latest ends of pauses. - `rank`: 0 for the latest one")
    static void endLatest() {
        PauseLexicons room = Rooms.with(0, 5);
        for (int end = 1; end <= 11; end++) {
            pauseOf(room, 0, end);
            room.close(0);
            Due.is("the latest", room.end(0, 2), end);
        }
        Due.is("the eleventh is the latest", room.end(0, 2), 11);
        Due.is("the second is the last told", room.end(9, 2), 2);
        room.undo();
        Due.is("undone: the tenth is the latest", room.end(0, 2), 10);
        Due.is("undone: the first is told again", room.end(9, 2), 1);
    }

    @Sentence(of = "Promise 14", says = "0 how it ended, 0 to 2")
    static void endHow() {
        PauseLexicons room = Rooms.evening();
        Due.is("closed, by a word, by a cough", room.end(2, 0) * 100 + room.end(1, 0) * 10 + room.end(0, 0), 12);
        Due.is("at their tables", room.end(2, 1) * 100 + room.end(1, 1) * 10 + room.end(0, 1), 1);
    }

    @Sentence(of = "Promise 14", says = "3 what it meant (0 if it was broken)")
    static void endMeant() {
        PauseLexicons room = Rooms.company(4);
        pauseOf(room, 0, 15);
        room.close(0);
        pauseOf(room, 0, 15);
        room.word(0);
        pauseOf(room, 0, 15);
        room.cough(0);
        pauseOf(room, 0, 2);
        room.close(0);
        Due.is("closed", room.end(3, 3), 11);
        Due.is("by a word", room.end(2, 3), 0);
        Due.is("by a cough", room.end(1, 3), 0);
        Due.is("closed too early", room.end(0, 3), 0);
    }

    @Sentence(of = "Promise 14", says = "4 who broke it (NONE if it was closed)")
    static void endWho() {
        PauseLexicons room = Rooms.full();
        pauseOf(room, 0, 5);
        room.word(9);
        pauseOf(room, 0, 5);
        room.cough(0);
        pauseOf(room, 0, 5);
        room.close(0);
        Due.is("by a word of guest 9", room.end(2, 4), 9);
        Due.is("by a cough of guest 0", room.end(1, 4), 0);
        Due.is("closed", room.end(0, 4), NONE);
        room.leave(9);
        Due.is("also of one who has left", room.end(2, 4), 9);
    }

    @Sentence(of = "Promise 14", says = "NO_SUCH if there are not so many")
    static void endNotSoMany() {
        Twins.refused("the latest of none", NO_SUCH, PauseLexicons::new, r -> r.end(0, 0));
        for (int ends = 0; ends <= 12; ends++) {
            PauseLexicons room = withEnds(ends);
            int told = Math.min(ends, 10);
            for (int rank = 0; rank <= 12; rank++) {
                Due.is("end " + rank + " of " + ends, room.end(rank, 2), rank < told ? ends - rank : NO_SUCH);
            }
        }
        for (int rank : Twins.outside(0, 9)) {
            Twins.refused("end " + rank + " of 12", NO_SUCH, () -> withEnds(12), r -> r.end(rank, 0));
        }
        // Five times this number is 4 more than the highest sum of an int, which begins anew with the lowest one then.
        Twins.refused("an end whose place wraps around", NO_SUCH, () -> withEnds(12), r -> r.end(858993460, 0));
    }

    /** That many ends, of 1, 2, .. seconds. */
    private static PauseLexicons withEnds(int ends) {
        PauseLexicons room = Rooms.with(0, 5);
        for (int end = 1; end <= ends; end++) {
            pauseOf(room, 0, end);
            room.close(0);
        }
        return room;
    }

    @Sentence(of = "Promise 14", says = "BAD_VALUE if what is out of range")
    static void endWhatOutOfRange() {
        refusesWhats(4, a -> a.room().end(0, a.value()));
        refusesWhats(4, a -> a.room().end(2, a.value()));
        for (int what : Twins.outside(0, 4)) {
            Twins.refused("what " + what + " of the tenth", BAD_VALUE, () -> withEnds(10), r -> r.end(9, what));
        }
    }

    @Sentence(of = "Promise 14",
        says = "NO_SUCH if there are not so many; BAD_VALUE if what is out of range", order = true)
    static void endErrorsInTheirOrder() {
        Twins.refused("end(0, 5) of none", NO_SUCH, PauseLexicons::new, r -> r.end(0, 5));
        Twins.refused("end(3, 5) of three", NO_SUCH, Rooms::evening, r -> r.end(3, 5));
        Twins.refused("end(-1, -1)", NO_SUCH, Rooms::evening, r -> r.end(-1, -1));
        Twins.refused("end(10, 5) of twelve", NO_SUCH, () -> withEnds(12), r -> r.end(10, 5));
    }

    // ---- Promise 15: count

    @Sentence(of = "Promise 15", says = "0 the time, 1 guests that are there, as a set, 2 pauses that go on, how many")
    static void countWithoutThoseWhoLeft() {
        PauseLexicons room = Rooms.with(0, 5, 1, 5, 2, 5);
        for (int table = 0; table < 3; table++) {
            room.pause(table);
            Due.is("pauses", room.count(2), table + 1);
        }
        room.leave(1);
        Due.is("guests that are there", room.count(1), 0b101);
        Due.is("not the pause that is over", room.count(2), 2);
        Due.is("the last time", Rooms.late().count(0), 9999);
    }

    @Sentence(of = "Promise 15", says = "3 closed so far, 4 broken by words, 5 by coughs so far")
    static void countMoreThanAreTold() {
        PauseLexicons room = Rooms.with(0, 5);
        for (int times = 1; times <= 11; times++) {
            pauseOf(room, 0, 1);
            room.close(0);
            pauseOf(room, 0, 1);
            room.word(0);
            pauseOf(room, 0, 1);
            room.cough(0);
            for (int what = 3; what <= 5; what++) {
                Due.is("ends of kind " + (what - 3), room.count(what), times);
            }
        }
        pauseOf(room, 0, 1);
        room.leave(0);
        Due.is("not those that are over", room.count(3) + room.count(4) + room.count(5), 33);
    }

    @Sentence(of = "Promise 15", says = "6 faults of all (also of those who left)")
    static void countFaultsOfThoseWhoLeft() {
        PauseLexicons room = Rooms.with(0, 5, 0, 6);
        Due.is("none", room.count(6), 0);
        pauseOf(room, 0, 1);
        room.word(0);
        room.leave(0);
        Due.is("one left, one is there", room.count(6), 2);
        room.leave(1);
        Due.is("all have left", room.count(6), 2);
    }

    @Sentence(of = "Promise 15", says = "8 coughs to lend of all who are there")
    static void countCoughsOfThoseThere() {
        PauseLexicons room = Rooms.with(0, 5, 2, 5);
        Due.is("nobody", new PauseLexicons().count(8), 0);
        Due.is("both", room.count(8), 4);
        room.leave(0);
        Due.is("not of who left", room.count(8), 2);
        room.leave(1);
        Due.is("nobody is there", room.count(8), 0);
    }

    @Sentence(of = "Promise 15", says = "9 to 12 the settings")
    static void countSettings() {
        PauseLexicons room = new PauseLexicons();
        int[] first = {3, 4, 2, 1};
        int[] highest = {20, 20, 9, 9};
        for (int setting = 0; setting <= 3; setting++) {
            Due.is("first value of " + setting, room.count(9 + setting), first[setting]);
            room.set(setting, highest[setting]);
            Due.is("highest value of " + setting, room.count(9 + setting), highest[setting]);
        }
    }

    @Sentence(of = "Promise 15", says = "13 the length of the pad")
    static void countPad() {
        PauseLexicons room = new PauseLexicons();
        Due.is("empty", room.count(13), 0);
        for (int length = 1; length <= 80; length++) {
            room.put('x');
            Due.is("characters", room.count(13), length);
        }
        room.put('x');
        Due.is("not one more", room.count(13), 80);
        room.wipe();
        Due.is("empty again", room.count(13), 0);
    }

    @Sentence(of = "Promise 15", says = "14 how many changes can be undone")
    static void countChanges() {
        PauseLexicons room = new PauseLexicons();
        Due.is("none", room.count(14), 0);
        for (int change = 1; change <= 8; change++) {
            room.pass(1);
            Due.is("after change " + change, room.count(14), Math.min(change, 6));
        }
        for (int left = 5; left >= 0; left--) {
            room.undo();
            Due.is("left", room.count(14), left);
        }
        room.undo();
        Due.is("never less than none", room.count(14), 0);
    }

    @Sentence(of = "Promise 15", says = "BAD_VALUE if what is out of range")
    static void countWhatOutOfRange() {
        refusesWhats(14, a -> a.room().count(a.value()));
        Due.is("what 0", Rooms.evening().count(0), 12);
        Due.is("what 14", Rooms.evening().count(14), 6);
    }

    // ---- Promise 16: wouldMean

    @Sentence(of = "Promise 16", says = "`seconds`: 0 to 999")
    static void wouldMean0To999() {
        PauseLexicons room = Rooms.company(4);
        room.set(SHORT, 1);
        Due.is("0 seconds", room.wouldMean(0, 0), 0);
        Due.is("1 second", room.wouldMean(0, 1), 9);
        Due.is("998 seconds", room.wouldMean(0, 998), 11);
        Due.is("999 seconds", room.wouldMean(0, 999), 11);
    }

    @Sentence(of = "Promise 16", says = "Returns the meaning, 0 to 11 (0 for a table without guests)")
    static void wouldMeanWithoutGuests() {
        PauseLexicons room = Rooms.with(1, 5);
        room.leave(0);
        for (int table = 0; table < 3; table++) {
            for (int seconds : new int[] {0, 2, 3, 7, 11, 15, 999}) {
                Due.is("table " + table + " after " + seconds, room.wouldMean(table, seconds), 0);
            }
        }
    }

    @Sentence(of = "Promise 16", says = "NO_SUCH if there is no such table")
    static void wouldMeanNoSuchTable() {
        for (int table : Twins.outside(0, 2)) {
            Twins.refused("wouldMean(" + table + ", 5)", NO_SUCH, Rooms::evening, r -> r.wouldMean(table, 5));
        }
        Due.is("table 0", Rooms.with(0, 5).wouldMean(0, 3), 1);
        Due.is("table 2", Rooms.with(2, 5).wouldMean(2, 3), 1);
    }

    @Sentence(of = "Promise 16", says = "BAD_VALUE if seconds is out of range")
    static void wouldMeanSecondsOutOfRange() {
        for (int seconds : Twins.outside(0, 999)) {
            Twins.refused("wouldMean(0, " + seconds + ")", BAD_VALUE, Rooms::evening, r -> r.wouldMean(0, seconds));
            Twins.refused("of nobody for " + seconds, BAD_VALUE, Rooms::evening, r -> r.wouldMean(2, seconds));
        }
    }

    @Sentence(of = "Promise 16", says = "NO_SUCH if there is no such table; BAD_VALUE if seconds is out of range",
        order = true)
    static void wouldMeanErrorsInTheirOrder() {
        Twins.refused("wouldMean(3, 1000)", NO_SUCH, Rooms::evening, r -> r.wouldMean(3, 1000));
        Twins.refused("wouldMean(-1, -1)", NO_SUCH, Rooms::evening, r -> r.wouldMean(-1, -1));
    }

    // ---- Promise 17: turnsIn

    @Sentence(of = "Promise 17", says = "in how many seconds the pause of a table means something else than now")
    static void turnsInTheNextSecondOfAnotherMeaning() {
        int[][] shortsAndSteps = {{3, 4}, {1, 1}, {20, 20}, {1, 20}, {20, 1}};
        for (int[] settings : shortsAndSteps) {
            for (int company = 1; company <= 4; company++) {
                PauseLexicons room = companyWith(company, settings);
                room.pause(0);
                for (int second = 0; second <= 84; second++) {
                    int due = firstOther(companyWith(company, settings), second);
                    Due.is("company " + company + " after " + second, room.turnsIn(0), due);
                    room.pass(1);
                }
            }
        }
    }

    private static PauseLexicons companyWith(int company, int[] settings) {
        PauseLexicons room = Rooms.company(company);
        room.set(SHORT, settings[0]);
        room.set(STEP, settings[1]);
        return room;
    }

    private static int firstOther(PauseLexicons room, int seconds) {
        int now = room.wouldMean(0, seconds);
        for (int more = 1; more <= 90; more++) {
            if (room.wouldMean(0, seconds + more) != now) {
                return more;
            }
        }
        return NONE;
    }

    @Sentence(of = "Promise 17", says = "if nothing else is done")
    static void turnsInIfNothingElseIsDone() {
        PauseLexicons room = Rooms.with(0, 5, 1, 5);
        pauseOf(room, 0, 3);
        Due.is("alone", room.turnsIn(0), 8);
        room.move(1, 0);
        Due.is("as a pair", room.turnsIn(0), 4);
        room.set(SHORT, 4);
        Due.is("too short for a longer SHORT", room.turnsIn(0), 1);
        room.set(STEP, 1);
        room.pass(1);
        Due.is("with a shorter STEP", room.turnsIn(0), 1);
        Due.is("nothing of it was changed by asking", room.table(0, 3), 4);
    }

    @Sentence(of = "Promise 17", says = "NO_SUCH if there is no such table")
    static void turnsInNoSuchTable() {
        for (int table : Twins.outside(0, 2)) {
            Twins.refused("turnsIn(" + table + ")", NO_SUCH, Rooms::evening, r -> r.turnsIn(table));
        }
        for (int table : new int[] {0, 2}) {
            PauseLexicons room = Rooms.with(table, 5);
            room.pause(table);
            Due.is("table " + table, room.turnsIn(table), 3);
        }
    }

    @Sentence(of = "Promise 17", says = "NOT_POSSIBLE if there is no pause")
    static void turnsInNoPause() {
        Twins.refused("a guest without a pause", NOT_POSSIBLE, Rooms::evening, r -> r.turnsIn(1));
        Twins.refused("nobody", NOT_POSSIBLE, Rooms::evening, r -> r.turnsIn(2));
        PauseLexicons room = Rooms.with(0, 5);
        room.pause(0);
        Due.is("one of 0 seconds", room.turnsIn(0), 3);
        room.close(0);
        Due.is("it has ended", room.turnsIn(0), NOT_POSSIBLE);
    }

    @Sentence(of = "Promise 17", says = "NONE if it never does")
    static void turnsInNever() {
        int[] lastTurn = {0, 11, 11, 15, 15};
        for (int company = 1; company <= 4; company++) {
            PauseLexicons room = Rooms.company(company);
            pauseOf(room, 0, lastTurn[company] - 1);
            Due.is("one second before the last turn", room.turnsIn(0), 1);
            room.pass(1);
            Due.is("at the last turn", room.turnsIn(0), NONE);
            room.pass(99);
            Due.is("long after it", room.turnsIn(0), NONE);
        }
        Due.is("of the longest one there can be", Rooms.late().turnsIn(0), NONE);
    }

    @Sentence(of = "Promise 17",
        says = "NO_SUCH if there is no such table; NOT_POSSIBLE if there is no pause; NONE if it "
        + "never does", order = true)
    static void turnsInErrorsInTheirOrder() {
        Twins.refused("no pause at the last table", NOT_POSSIBLE, PauseLexicons::new, r -> r.turnsIn(2));
        Twins.refused("no pause at a table that is none", NO_SUCH, PauseLexicons::new, r -> r.turnsIn(3));
        PauseLexicons room = Rooms.late();
        Due.is("a pause that never turns", room.turnsIn(0), NONE);
        room.close(0);
        Due.is("no pause, which never turns", room.turnsIn(0), NOT_POSSIBLE);
    }

    // ---- Promise 18: lender

    @Sentence(of = "Promise 18", says = "NO_SUCH if there is no such guest")
    static void lenderNoSuchGuest() {
        BoundariesOfChanges.refusesGuests(a -> a.room().lender(a.value()), "lender");
        Due.is("guest 0", Rooms.full().lender(0), 1);
        Due.is("guest 9", Rooms.full().lender(9), 0);
    }

    @Sentence(of = "Promise 18", says = "NOT_POSSIBLE if the guest has left")
    static void lenderHasLeft() {
        Twins.refused("lender(4)", NOT_POSSIBLE, Rooms::evening, r -> r.lender(4));
        PauseLexicons room = Rooms.with(0, 5, 1, 5);
        room.leave(0);
        room.leave(1);
        Due.is("not another one who has left", room.lender(0), NOT_POSSIBLE);
    }

    @Sentence(of = "Promise 18", says = "NONE if nobody would lend")
    static void lenderNobody() {
        PauseLexicons room = new PauseLexicons();
        room.set(LEND, 1);
        room.guest(0, 5);
        room.guest(1, 5);
        Due.is("alone", room.lender(0), NONE);
        room.move(1, 0);
        Due.is("a pair, without a pause", room.lender(0), 1);
        room.pause(0);
        room.cough(0);
        Due.is("the other one has none left", room.lender(0), NONE);
        Due.is("but this one has", room.lender(1), 0);
    }

    @Sentence(of = "Promise 18",
        says = "NO_SUCH if there is no such guest; NOT_POSSIBLE if the guest has left; NONE if "
        + "nobody would lend", order = true)
    static void lenderErrorsInTheirOrder() {
        PauseLexicons room = Rooms.with(0, 5);
        Due.is("alone, nobody would lend", room.lender(0), NONE);
        Due.is("no guest, nobody would lend", room.lender(1), NO_SUCH);
        room.leave(0);
        Due.is("has left, nobody would lend", room.lender(0), NOT_POSSIBLE);
        Due.is("no guest, all have left", room.lender(1), NO_SUCH);
    }

    // ---- Promise 19: without

    @Sentence(of = "Promise 19", says = "what the pause of a table would mean now without a guest of it")
    static void withoutEachKindOfGuest() {
        PauseLexicons room = Rooms.with(0, 5, 0, 5, 0, 5, 0, 6, 1, 9);
        pauseOf(room, 0, 15);
        Due.is("a court without one of three", room.without(0), 11);
        Due.is("peers without the one of another rank", room.without(3), 8);
        room.leave(3);
        Due.is("a pair without one of three", room.without(2), 5);
        room.leave(2);
        Due.is("alone without one of two", room.without(0), 2);
        room.set(SHORT, 16);
        Due.is("nothing if it is too short", room.without(0), 0);
        Due.is("the guest is there still", room.table(0, 0), 0b11);
    }

    @Sentence(of = "Promise 19", says = "Returns the meaning, 0 to 11")
    static void withoutTheOnlyGuest() {
        PauseLexicons room = Rooms.with(0, 5);
        for (int seconds = 0; seconds < 20; seconds++) {
            pauseOf(room, 0, seconds);
            Due.is("nobody stays, after " + seconds, room.without(0), 0);
            Due.is("the pause goes on", room.table(0, 3), seconds);
            room.close(0);
        }
    }

    @Sentence(of = "Promise 19", says = "NO_SUCH if there is no such guest")
    static void withoutNoSuchGuest() {
        BoundariesOfChanges.refusesGuests(a -> a.room().without(a.value()), "without");
        for (int guest : new int[] {0, 9}) {
            PauseLexicons room = Rooms.full();
            pauseOf(room, 0, 3);
            Due.is("guest " + guest, room.without(guest), 6);
        }
    }

    @Sentence(of = "Promise 19", says = "NOT_POSSIBLE if the guest has left, or there is no pause")
    static void withoutHasLeftOrNoPause() {
        Twins.refused("has left", NOT_POSSIBLE, Rooms::evening, r -> r.without(4));
        Twins.refused("no pause at the own table", NOT_POSSIBLE, Rooms::evening, r -> r.without(3));
        PauseLexicons room = Rooms.with(0, 5);
        Due.is("no pause yet", room.without(0), NOT_POSSIBLE);
        room.pause(0);
        Due.is("one of 0 seconds", room.without(0), 0);
    }

    @Sentence(of = "Promise 19",
        says = "NO_SUCH if there is no such guest; NOT_POSSIBLE if the guest has left, or there is "
        + "no pause", order = true)
    static void withoutErrorsInTheirOrder() {
        Twins.refused("a guest, no pause", NOT_POSSIBLE, Rooms::company1, r -> r.without(0));
        Twins.refused("no guest, no pause", NO_SUCH, Rooms::company1, r -> r.without(1));
    }

    // ---- Promise 20: usual

    @Sentence(of = "Promise 20", says = "the meaning that was meant the most, of several the lowest one")
    static void usualOfSeveralTheLowest() {
        PauseLexicons room = Rooms.with(0, 5, 1, 5, 1, 5, 1, 6);
        int[][] tableAndSeconds = {{1, 15}, {0, 11}, {0, 3}, {1, 15}, {0, 11}, {0, 3}, {1, 15}};
        int[] due = {11, 2, 1, 11, 2, 1, 11};
        for (int i = 0; i < due.length; i++) {
            pauseOf(room, tableAndSeconds[i][0], tableAndSeconds[i][1]);
            room.close(tableAndSeconds[i][0]);
            Due.is("after " + (i + 1), room.usual(), due[i]);
        }
        pauseOf(room, 0, 3);
        room.word(0);
        Due.is("a broken one means nothing", room.usual(), 11);
    }

    @Sentence(of = "Promise 20", says = "NONE if none was meant")
    static void usualNone() {
        PauseLexicons room = Rooms.with(0, 5);
        Due.is("no pause", room.usual(), NONE);
        for (int times = 0; times < 12; times++) {
            pauseOf(room, 0, 2);
            room.close(0);
        }
        Due.is("closed too early", room.usual(), NONE);
        pauseOf(room, 0, 9);
        Due.is("one goes on", room.usual(), NONE);
        room.word(0);
        Due.is("it is broken", room.usual(), NONE);
        pauseOf(room, 0, 3);
        room.close(0);
        Due.is("one was meant", room.usual(), 1);
        room.undo();
        Due.is("it is undone", room.usual(), NONE);
    }

    // ---- all of them

    @Sentence(of = "Texts",
        says = "Ahead of the calls `wouldMean`, `turnsIn`, `lender`, `without`, `usual` the interface "
        + "says: ---- what if; nothing changes.")
    static void questionsChangeNothing() {
        changesNothing("wouldMean(0, 999)", 11, Rooms::evening, r -> r.wouldMean(0, 999));
        changesNothing("turnsIn(0)", 3, Rooms::evening, r -> r.turnsIn(0));
        changesNothing("turnsIn(0), never", NONE, Rooms::late, r -> r.turnsIn(0));
        changesNothing("lender(0)", 2, Rooms::evening, r -> r.lender(0));
        changesNothing("lender(3), nobody", NONE, Rooms::evening, r -> r.lender(3));
        changesNothing("without(0)", 4, Rooms::evening, r -> r.without(0));
        changesNothing("usual()", 9, Rooms::evening, PauseLexicons::usual);
        changesNothing("fault()", NONE, Rooms::evening, PauseLexicons::fault);
    }

    private static void changesNothing(String call, int due, Supplier<PauseLexicons> scene,
            ToIntFunction<PauseLexicons> asked) {
        Twins.changesNothing(call, due, scene, asked);
    }
}
