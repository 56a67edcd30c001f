/** Promises 1 to 27, one after the other, with answers worked out by hand from the document. */
public final class PromisesTest {
    private static final int NO_SUCH = -1, BAD_VALUE = -2, BAD_TEXT = -3, TOO_MANY = -4, NOT_POSSIBLE = -5, NONE = -6;
    private static final int LOW = Integer.MIN_VALUE, HIGH = Integer.MAX_VALUE;

    public static void main(String[] args) {
        newObject();
        set();
        settingsAreUsed();
        guest();
        leave();
        move();
        pause();
        meaningsOfAllCompanies();
        close();
        word();
        cough();
        pass();
        of();
        table();
        meaning();
        end();
        count();
        wouldMean();
        turnsIn();
        lender();
        without();
        usual();
        put();
        wipe();
        fault();
        carryOut();
        carryOutStops();
        undo();
        undoRecordsEachChange();
        undoOfEachChange();
        undoKeepsStatesApart();
        save();
        restore();
        Due.close();
    }

    private static void newObject() {
        PauseLexicons room = new PauseLexicons();
        for (int table = 0; table < 3; table++) {
            Due.is("1 guests of " + table, room.table(table, 0), 0);
            Due.is("1 host of " + table, room.table(table, 1), NONE);
            Due.is("1 company of " + table, room.table(table, 2), 0);
            Due.is("1 pause of " + table, room.table(table, 3), NONE);
            Due.is("1 meaning of " + table, room.table(table, 4), NONE);
            Due.is("1 ends of " + table, room.table(table, 5), 0);
        }
        int[] due = {0, 0, 0, 0, 0, 0, 0, 0, 0, 3, 4, 2, 1, 0, 0};
        for (int what = 0; what < due.length; what++) {
            Due.is("1 count(" + what + ")", room.count(what), due[what]);
        }
        for (int meaning = 1; meaning <= 11; meaning++) {
            Due.is("1 often " + meaning, room.meaning(meaning, 0), 0);
            Due.is("1 longest " + meaning, room.meaning(meaning, 1), 0);
        }
        Due.is("1 no guest", room.of(0, 0), NO_SUCH);
        Due.is("1 no end", room.end(0, 0), NO_SUCH);
        Due.is("1 nothing to undo", room.undo(), NOT_POSSIBLE);
        Due.is("1 nothing saved", room.restore(0), NOT_POSSIBLE);
        PauseLexicons other = Rooms.with(0, 5);
        Due.is("1 objects are apart", new PauseLexicons().count(1), 0);
        Due.is("1 objects are apart", other.count(1), 1);
    }

    private static void set() {
        int[] first = {3, 4, 2, 1};
        int[] highest = {20, 20, 9, 9};
        for (int setting = 0; setting < 4; setting++) {
            PauseLexicons room = new PauseLexicons();
            Due.is("2 highest of " + setting, room.set(setting, highest[setting]), first[setting]);
            Due.is("2 lowest of " + setting, room.set(setting, 1), highest[setting]);
            Due.is("2 above", room.set(setting, highest[setting] + 1), BAD_VALUE);
            Due.is("2 below", room.set(setting, 0), BAD_VALUE);
            Due.is("2 far below", room.set(setting, LOW), BAD_VALUE);
            Due.is("2 far above", room.set(setting, HIGH), BAD_VALUE);
            Due.is("2 kept", room.count(9 + setting), 1);
            Due.is("2 the same again", room.set(setting, 1), 1);
            Due.is("2 changes", room.count(14), 3);
        }
        PauseLexicons room = new PauseLexicons();
        Due.is("2 no setting 4", room.set(4, 1), BAD_VALUE);
        Due.is("2 no setting -1", room.set(-1, 1), BAD_VALUE);
        Due.is("2 no setting LOW", room.set(LOW, 1), BAD_VALUE);
        Due.is("2 no setting HIGH", room.set(HIGH, 1), BAD_VALUE);
        Due.is("2 errors record nothing", room.count(14), 0);
    }

    private static void settingsAreUsed() {
        PauseLexicons room = Rooms.with(0, 5);
        room.pause(0);
        room.pass(5);
        Due.is("2 thought", room.table(0, 4), 1);
        room.set(PauseLexicons.SHORT, 6);
        Due.is("2 a longer SHORT counts at once", room.table(0, 4), 0);
        room.set(PauseLexicons.SHORT, 1);
        room.set(PauseLexicons.STEP, 2);
        Due.is("2 a shorter STEP counts at once", room.table(0, 4), 2);
        room.set(PauseLexicons.LEND, 7);
        Due.is("2 LEND is for those who come", room.of(0, 3), 2);
        room.guest(1, 1);
        Due.is("2 LEND is for those who come", room.of(1, 3), 7);
        room.set(PauseLexicons.SHAME, 4);
        Due.is("2 SHAME of a word", room.word(0), 4);
    }

    private static void guest() {
        PauseLexicons room = new PauseLexicons();
        Due.is("3 no table 3", room.guest(3, 1), NO_SUCH);
        Due.is("3 no table -1", room.guest(-1, 1), NO_SUCH);
        Due.is("3 no table LOW", room.guest(LOW, 1), NO_SUCH);
        Due.is("3 no table HIGH", room.guest(HIGH, 1), NO_SUCH);
        Due.is("3 the table is looked at first", room.guest(3, 0), NO_SUCH);
        Due.is("3 rank 0", room.guest(0, 0), BAD_VALUE);
        Due.is("3 rank 10", room.guest(0, 10), BAD_VALUE);
        Due.is("3 rank LOW", room.guest(0, LOW), BAD_VALUE);
        Due.is("3 rank HIGH", room.guest(0, HIGH), BAD_VALUE);
        Due.is("3 errors record nothing", room.count(14), 0);
        for (int number = 0; number < 10; number++) {
            Due.is("3 number " + number, room.guest(number % 3, 1 + number % 9), number);
            Due.is("3 table of " + number, room.of(number, 0), number % 3);
            Due.is("3 rank of " + number, room.of(number, 1), 1 + number % 9);
        }
        Due.is("3 the rank is looked at before the room", room.guest(0, 10), BAD_VALUE);
        Due.is("3 the eleventh", room.guest(0, 1), TOO_MANY);
        room.leave(4);
        Due.is("3 the eleventh, also when one has left", room.guest(0, 1), TOO_MANY);
        Due.is("3 all but one", room.count(1), 1023 - 16);
        Due.is("3 all together: company", room.table(0, 2), 4);
        Due.is("3 all together: guests", room.table(0, 0), 0b1001001001);
        Due.is("3 all together: host", room.table(2, 1), 8);
        Due.is("3 all together: lender", room.lender(0), 9);
        Due.is("3 all together: faults", room.count(6), 0);
        Due.is("3 all together: coughs", room.count(8), 18);
        room.pause(0);
        Due.is("3 the last one speaks", room.word(9), 1);
    }

    private static void leave() {
        PauseLexicons room = Rooms.with(0, 5, 0, 7, 1, 3);
        Due.is("4 nobody -1", room.leave(-1), NO_SUCH);
        Due.is("4 nobody 3", room.leave(3), NO_SUCH);
        Due.is("4 nobody LOW", room.leave(LOW), NO_SUCH);
        Due.is("4 nobody HIGH", room.leave(HIGH), NO_SUCH);
        room.pause(0);
        room.pass(6);
        Due.is("4 one stays", room.leave(1), 1);
        Due.is("4 the pause goes on", room.table(0, 3), 6);
        Due.is("4 and means something else", room.table(0, 4), 1);
        Due.is("4 for good", room.leave(1), NOT_POSSIBLE);
        Due.is("4 for good", room.move(1, 2), NOT_POSSIBLE);
        Due.is("4 nobody stays", room.leave(0), 0);
        Due.is("4 the pause is over", room.table(0, 3), NONE);
        Due.is("4 and means nothing", room.table(0, 4), NONE);
        Due.is("4 no end is told", room.end(0, 0), NO_SUCH);
        Due.is("4 no end is counted", room.table(0, 5), 0);
        Due.is("4 nothing was closed", room.count(3), 0);
        Due.is("4 no pause goes on", room.count(2), 0);
        Due.is("4 the rank is still told", room.of(1, 1), 7);
        room.guest(0, 1);
        Due.is("4 a new guest has no pause", room.table(0, 3), NONE);
        Due.is("4 changes", room.count(14), 6);
    }

    private static void move() {
        PauseLexicons room = Rooms.with(0, 5, 0, 7, 1, 3);
        Due.is("5 nobody -1", room.move(-1, 0), NO_SUCH);
        Due.is("5 nobody 3", room.move(3, 0), NO_SUCH);
        Due.is("5 nobody HIGH", room.move(HIGH, 0), NO_SUCH);
        Due.is("5 no table -1", room.move(0, -1), NO_SUCH);
        Due.is("5 no table 3", room.move(0, 3), NO_SUCH);
        Due.is("5 no table LOW", room.move(0, LOW), NO_SUCH);
        Due.is("5 is there", room.move(0, 0), NOT_POSSIBLE);
        room.pause(0);
        room.pause(1);
        room.pass(3);
        Due.is("5 from 0", room.move(0, 1), 0);
        Due.is("5 the pause left goes on", room.table(0, 3), 3);
        Due.is("5 the pause come to goes on", room.table(1, 3), 3);
        Due.is("5 now a pair", room.table(1, 4), 3);
        Due.is("5 the guest is there", room.of(0, 0), 1);
        Due.is("5 from 0", room.move(1, 2), 0);
        Due.is("5 the pause is over", room.table(0, 3), NONE);
        Due.is("5 it does not come along", room.table(2, 3), NONE);
        Due.is("5 no end", room.end(0, 0), NO_SUCH);
        Due.is("5 no end is counted", room.table(0, 5), 0);
        Due.is("5 back from 1", room.move(0, 0), 1);
        room.leave(2);
        Due.is("5 has left", room.move(2, 0), NOT_POSSIBLE);
        Due.is("5 the table is looked at before that", room.move(2, 3), NO_SUCH);
    }

    private static void pause() {
        PauseLexicons room = Rooms.with(0, 5, 1, 5, 1, 6);
        Due.is("6 no table -1", room.pause(-1), NO_SUCH);
        Due.is("6 no table 3", room.pause(3), NO_SUCH);
        Due.is("6 no table LOW", room.pause(LOW), NO_SUCH);
        Due.is("6 nobody", room.pause(2), NOT_POSSIBLE);
        Due.is("6 alone", room.pause(0), 1);
        Due.is("6 there is one", room.pause(0), NOT_POSSIBLE);
        Due.is("6 a pair", room.pause(1), 2);
        Due.is("6 from 0 seconds", room.table(1, 3), 0);
        Due.is("6 with no meaning", room.table(1, 4), 0);
        Due.is("6 recorded", room.count(14), 5);
        PauseLexicons three = Rooms.with(2, 4, 2, 4, 2, 4);
        Due.is("6 peers", three.pause(2), 3);
        PauseLexicons court = Rooms.with(2, 4, 2, 4, 2, 5);
        Due.is("6 a court", court.pause(2), 4);
        PauseLexicons four = Rooms.with(2, 4, 2, 4, 2, 4, 2, 4);
        Due.is("6 four peers", four.pause(2), 3);
    }

    private static void meaningsOfAllCompanies() {
        int[][] ranks = {{5}, {5, 6}, {5, 5, 5}, {5, 5, 6}};
        int[][] due = {{1, 1, 2, 2}, {3, 4, 5, 5}, {6, 7, 7, 8}, {9, 9, 10, 11}};
        for (int company = 0; company < 4; company++) {
            PauseLexicons room = new PauseLexicons();
            for (int rank : ranks[company]) {
                room.guest(1, rank);
            }
            room.pause(1);
            for (int seconds = 1; seconds <= 60; seconds++) {
                int meant = seconds < 3 ? 0 : due[company][Math.min(3, (seconds - 3) / 4)];
                Due.is("10 pass", room.pass(1), meant == 0 ? 0 : 1);
                Due.is("12 company " + company + " after " + seconds, room.table(1, 4), meant);
                Due.is("16 company " + company + " after " + seconds, room.wouldMean(1, seconds), meant);
            }
        }
    }

    private static void close() {
        PauseLexicons room = Rooms.with(0, 5, 0, 6);
        Due.is("7 no table -1", room.close(-1), NO_SUCH);
        Due.is("7 no table 3", room.close(3), NO_SUCH);
        Due.is("7 no table HIGH", room.close(HIGH), NO_SUCH);
        Due.is("7 no pause", room.close(0), NOT_POSSIBLE);
        Due.is("7 nobody", room.close(1), NOT_POSSIBLE);
        room.pause(0);
        room.pass(2);
        Due.is("7 too short", room.close(0), 0);
        Due.is("7 counted all the same", room.count(3), 1);
        Due.is("7 nothing was meant", room.count(7), 0);
        Due.is("7 it has ended", room.close(0), NOT_POSSIBLE);
        room.pause(0);
        room.pass(7);
        Due.is("7 quarrel", room.close(0), 4);
        Due.is("7 entered", room.meaning(4, 0), 1);
        Due.is("7 the time goes on", room.count(0), 9);
        room.pause(0);
        room.pass(7);
        room.guest(0, 6);
        Due.is("7 by the company then", room.close(0), 9);
        Due.is("7 nobody is at fault", room.count(6), 0);
        Due.is("7 nobody broke it", room.of(0, 5) + room.of(1, 5) + room.of(2, 5), 0);
        Due.is("7 no other way", room.count(4) + room.count(5), 0);
        Due.is("7 three ends", room.table(0, 5), 3);
        Due.is("7 changes", room.count(14), 6);
    }

    private static void word() {
        PauseLexicons room = Rooms.with(0, 5, 0, 7, 0, 7, 1, 1);
        Due.is("8 nobody -1", room.word(-1), NO_SUCH);
        Due.is("8 nobody 4", room.word(4), NO_SUCH);
        Due.is("8 nobody HIGH", room.word(HIGH), NO_SUCH);
        Due.is("8 no pause", room.word(0), NOT_POSSIBLE);
        room.set(PauseLexicons.SHAME, 3);
        room.pause(0);
        room.pass(4);
        Due.is("8 no pause at the own table", room.word(3), NOT_POSSIBLE);
        Due.is("8 the one who spoke", room.word(0), 3);
        Due.is("8 the host answers with 1", room.of(1, 2), 1);
        Due.is("8 the other of that rank does not", room.of(2, 2), 0);
        Due.is("8 broken", room.of(0, 5), 1);
        Due.is("8 by words", room.count(4), 1);
        Due.is("8 nothing was meant", room.count(7), 0);
        Due.is("8 nothing was closed", room.count(3), 0);
        Due.is("8 one end", room.table(0, 5), 1);
        Due.is("8 it is over", room.word(0), NOT_POSSIBLE);
        room.pause(0);
        Due.is("8 the host has no 1 more", room.word(1), 4);
        room.pause(0);
        Due.is("8 again", room.word(0), 6);
        Due.is("8 the host again", room.of(1, 2), 5);
        Due.is("8 no coughs are paid", room.count(8), 8);
        room.leave(0);
        room.pause(0);
        Due.is("8 has left", room.word(0), NOT_POSSIBLE);
        room.pause(1);
        Due.is("8 alone", room.word(3), 3);
        Due.is("8 faults of all", room.count(6), 14);
    }

    private static void cough() {
        PauseLexicons room = Rooms.with(0, 5, 0, 7, 0, 3, 0, 3, 1, 1);
        Due.is("9 nobody -1", room.cough(-1), NO_SUCH);
        Due.is("9 nobody 5", room.cough(5), NO_SUCH);
        Due.is("9 nobody LOW", room.cough(LOW), NO_SUCH);
        Due.is("9 no pause", room.cough(0), NOT_POSSIBLE);
        room.set(PauseLexicons.SHAME, 3);
        int[] due = {2, 2, 3, 3, 1, 1, NONE};
        for (int i = 0; i < due.length; i++) {
            room.pause(0);
            room.pass(4);
            Due.is("9 no pause at the own table", room.cough(4), NOT_POSSIBLE);
            Due.is("9 lender " + i, room.cough(0), due[i]);
            Due.is("9 coughs " + i, room.count(5), i + 1);
            Due.is("9 broken " + i, room.of(0, 5), i + 1);
            Due.is("9 it is over", room.cough(0), NOT_POSSIBLE);
        }
        Due.is("9 nobody lent: SHAME", room.of(0, 2), 3);
        Due.is("9 the host does not answer", room.of(1, 2), 0);
        Due.is("9 the own coughs are kept", room.of(0, 3), 2);
        Due.is("9 the lender's are spent", room.of(2, 3), 0);
        Due.is("9 lent", room.of(2, 6), 2);
        Due.is("9 lent", room.of(1, 6), 2);
        Due.is("9 nothing was meant", room.count(7), 0);
        Due.is("9 ends", room.table(0, 5), 7);
        Due.is("9 no other way", room.count(3) + room.count(4), 0);
        room.pause(0);
        Due.is("9 from the one with some left", room.cough(3), 0);
        room.pause(1);
        int changes = room.count(14);
        room.undo();
        room.pause(1);
        Due.is("9 alone nobody lends", room.cough(4), NONE);
        Due.is("9 alone: SHAME", room.of(4, 2), 3);
        Due.is("9 NONE is no error: recorded", room.count(14), changes);
        room.pause(1);
        room.cough(4);
        Due.is("9 each time", room.of(4, 2), 6);
        room.leave(0);
        room.pause(0);
        Due.is("9 has left", room.cough(0), NOT_POSSIBLE);
    }

    private static void pass() {
        PauseLexicons room = Rooms.with(0, 5, 1, 5, 2, 5);
        Due.is("10 0 seconds", room.pass(0), BAD_VALUE);
        Due.is("10 -1 seconds", room.pass(-1), BAD_VALUE);
        Due.is("10 100 seconds", room.pass(100), BAD_VALUE);
        Due.is("10 LOW", room.pass(LOW), BAD_VALUE);
        Due.is("10 HIGH", room.pass(HIGH), BAD_VALUE);
        room.pause(0);
        Due.is("10 too short", room.pass(2), 0);
        room.pause(1);
        Due.is("10 one", room.pass(2), 1);
        room.pause(2);
        Due.is("10 two", room.pass(1), 2);
        Due.is("10 three", room.pass(99), 3);
        Due.is("10 each its own", room.table(0, 3), 104);
        Due.is("10 each its own", room.table(1, 3), 102);
        Due.is("10 each its own", room.table(2, 3), 100);
        Due.is("10 the time", room.count(0), 104);
        room.close(1);
        Rooms.pass(room, 9999 - 104 - 99);
        Due.is("10 too far", room.pass(99) + room.pass(1), 2 + NOT_POSSIBLE);
        Due.is("10 the last time", room.count(0), 9999);
        Due.is("10 the pause stays", room.table(0, 3), 9999);
        Due.is("10 the range is looked at first", room.pass(100), BAD_VALUE);
        room.undo();
        Due.is("10 before that", room.count(0), 9900);
        Due.is("10 to the last time again", room.pass(98), 2);
        Due.is("10 one too many", room.pass(2), NOT_POSSIBLE);
        Due.is("10 changes nothing", room.count(0), 9998);
        Due.is("10 the last one", room.pass(1), 2);
    }

    private static void of() {
        PauseLexicons room = Rooms.with(2, 9, 2, 4, 2, 4);
        Due.is("11 nobody -1", room.of(-1, 0), NO_SUCH);
        Due.is("11 nobody 3", room.of(3, 0), NO_SUCH);
        Due.is("11 nobody LOW", room.of(LOW, 0), NO_SUCH);
        Due.is("11 nobody HIGH", room.of(HIGH, 99), NO_SUCH);
        Due.is("11 what -1", room.of(0, -1), BAD_VALUE);
        Due.is("11 what 7", room.of(0, 7), BAD_VALUE);
        Due.is("11 what HIGH", room.of(0, HIGH), BAD_VALUE);
        room.pause(2);
        room.word(1);
        room.pause(2);
        room.cough(2);
        room.pause(2);
        room.cough(1);
        int[][] due = {{2, 9, 1, 2, 1, 0, 0}, {2, 4, 1, 1, 0, 2, 1}, {2, 4, 0, 1, 0, 1, 1}};
        for (int guest = 0; guest < 3; guest++) {
            for (int what = 0; what < 7; what++) {
                Due.is("11 of(" + guest + ", " + what + ")", room.of(guest, what), due[guest][what]);
            }
        }
        room.leave(0);
        Due.is("11 a new host", room.of(1, 4), 1);
        Due.is("11 not the other one", room.of(2, 4), 0);
        room.leave(1);
        int[] left = {NONE, 4, 1, 1, 0, 2, 1};
        for (int what = 0; what < 7; what++) {
            Due.is("11 who has left " + what, room.of(1, what), left[what]);
        }
    }

    private static void table() {
        PauseLexicons room = Rooms.with(1, 3, 0, 5, 1, 8, 1, 8);
        Due.is("12 no table -1", room.table(-1, 0), NO_SUCH);
        Due.is("12 no table 3", room.table(3, 99), NO_SUCH);
        Due.is("12 no table HIGH", room.table(HIGH, 0), NO_SUCH);
        Due.is("12 what -1", room.table(0, -1), BAD_VALUE);
        Due.is("12 what 6", room.table(0, 6), BAD_VALUE);
        Due.is("12 what LOW", room.table(0, LOW), BAD_VALUE);
        Due.is("12 guests", room.table(1, 0), 0b1101);
        Due.is("12 host, the lowest number", room.table(1, 1), 2);
        Due.is("12 company", room.table(1, 2), 4);
        Due.is("12 no pause", room.table(1, 3), NONE);
        Due.is("12 no meaning", room.table(1, 4), NONE);
        room.pause(1);
        Due.is("12 seconds", room.table(1, 3), 0);
        room.pass(11);
        Due.is("12 seconds", room.table(1, 3), 11);
        Due.is("12 fear", room.table(1, 4), 10);
        room.leave(0);
        Due.is("12 a pair", room.table(1, 2), 2);
        Due.is("12 parting", room.table(1, 4), 5);
        room.close(1);
        Due.is("12 ended", room.table(1, 5), 1);
        Due.is("12 not there", room.table(0, 5), 0);
        room.leave(2);
        Due.is("12 the next host", room.table(1, 1), 3);
        room.guest(2, 1);
        Due.is("12 a host of the lowest rank", room.table(2, 1), 4);
    }

    private static void meaning() {
        PauseLexicons room = Rooms.with(0, 5, 1, 5, 1, 5);
        Due.is("13 no meaning 0", room.meaning(0, 0), NO_SUCH);
        Due.is("13 no meaning 12", room.meaning(12, 9), NO_SUCH);
        Due.is("13 no meaning LOW", room.meaning(LOW, 0), NO_SUCH);
        Due.is("13 no meaning HIGH", room.meaning(HIGH, 0), NO_SUCH);
        Due.is("13 what -1", room.meaning(1, -1), BAD_VALUE);
        Due.is("13 what 2", room.meaning(11, 2), BAD_VALUE);
        int[] seconds = {5, 9, 4};
        for (int i = 0; i < 3; i++) {
            room.pause(0);
            room.pass(seconds[i]);
            room.close(0);
            Due.is("13 often", room.meaning(1, 0), i + 1);
            Due.is("13 longest", room.meaning(1, 1), i == 0 ? 5 : 9);
        }
        room.pause(1);
        room.pass(70);
        room.word(1);
        Due.is("13 broken by a word", room.meaning(5, 0) + room.meaning(5, 1), 0);
        room.pause(1);
        room.pass(70);
        room.cough(1);
        Due.is("13 broken by a cough", room.meaning(5, 0) + room.meaning(5, 1), 0);
        room.pause(1);
        room.pass(70);
        room.close(1);
        Due.is("13 parting", room.meaning(5, 0), 1);
        Due.is("13 parting", room.meaning(5, 1), 70);
        Due.is("13 as a set", room.count(7), 1 << 1 | 1 << 5);
    }

    private static void end() {
        PauseLexicons room = Rooms.with(0, 5, 2, 6, 2, 7);
        Due.is("14 none yet", room.end(0, 0), NO_SUCH);
        Due.is("14 the rank is looked at first", room.end(0, 9), NO_SUCH);
        room.pause(2);
        room.pass(8);
        room.close(2);
        room.pause(2);
        room.pass(20);
        room.word(1);
        room.pause(0);
        room.pass(1);
        room.cough(0);
        int[][] due = {{2, 0, 1, 0, 0}, {1, 2, 20, 0, 1}, {0, 2, 8, 4, NONE}};
        for (int rank = 0; rank < 3; rank++) {
            for (int what = 0; what < 5; what++) {
                Due.is("14 end(" + rank + ", " + what + ")", room.end(rank, what), due[rank][what]);
            }
        }
        Due.is("14 not so many", room.end(3, 0), NO_SUCH);
        Due.is("14 rank -1", room.end(-1, 0), NO_SUCH);
        Due.is("14 rank LOW", room.end(LOW, 0), NO_SUCH);
        Due.is("14 rank HIGH", room.end(HIGH, 0), NO_SUCH);
        Due.is("14 what -1", room.end(0, -1), BAD_VALUE);
        Due.is("14 what 5", room.end(0, 5), BAD_VALUE);
        Due.is("14 what HIGH", room.end(0, HIGH), BAD_VALUE);
        for (int i = 1; i <= 12; i++) {
            room.pause(0);
            room.pass(i);
            room.close(0);
        }
        Due.is("14 ten at most", room.end(10, 0), NO_SUCH);
        for (int rank = 0; rank < 10; rank++) {
            Due.is("14 the latest first", room.end(rank, 2), 12 - rank);
        }
        Due.is("14 all are counted", room.table(0, 5), 13);
        Due.is("14 all are counted", room.count(3), 13);
    }

    private static void count() {
        PauseLexicons room = Rooms.with(0, 5, 0, 6, 1, 7, 2, 8);
        Due.is("15 what -1", room.count(-1), BAD_VALUE);
        Due.is("15 what 15", room.count(15), BAD_VALUE);
        Due.is("15 what LOW", room.count(LOW), BAD_VALUE);
        Due.is("15 what HIGH", room.count(HIGH), BAD_VALUE);
        room.set(0, 2);
        room.set(1, 5);
        room.set(2, 3);
        room.set(3, 6);
        room.pause(0);
        room.pause(2);
        Due.is("15 two pauses go on", room.count(2), 2);
        room.pass(12);
        room.close(2);
        room.word(0);
        room.pause(0);
        room.cough(1);
        room.pause(0);
        room.cough(1);
        room.pause(1);
        room.cough(2);
        room.leave(2);
        Due.write(room, "abc");
        int[] due = {12, 0b1011, 0, 1, 1, 3, 13, 1 << 2, 4, 2, 5, 3, 6, 3, 6};
        for (int what = 0; what < due.length; what++) {
            Due.is("15 count(" + what + ")", room.count(what), due[what]);
        }
        room.guest(0, 1);
        Due.is("15 coughs of a new one", room.count(8), 7);
    }

    private static void wouldMean() {
        PauseLexicons room = Rooms.with(1, 5, 1, 5, 1, 5);
        Due.is("16 no table -1", room.wouldMean(-1, 5), NO_SUCH);
        Due.is("16 no table 3", room.wouldMean(3, -1), NO_SUCH);
        Due.is("16 no table HIGH", room.wouldMean(HIGH, 5), NO_SUCH);
        Due.is("16 -1 seconds", room.wouldMean(0, -1), BAD_VALUE);
        Due.is("16 1000 seconds", room.wouldMean(0, 1000), BAD_VALUE);
        Due.is("16 LOW seconds", room.wouldMean(0, LOW), BAD_VALUE);
        Due.is("16 HIGH seconds", room.wouldMean(0, HIGH), BAD_VALUE);
        for (int second = 0; second <= 99; second++) {
            Due.is("16 nobody for " + second, room.wouldMean(0, second), 0);
        }
        int[] seconds = {0, 2, 3, 6, 7, 14, 15, 999};
        int[] due = {0, 0, 6, 6, 7, 7, 8, 8};
        for (int i = 0; i < due.length; i++) {
            Due.is("16 peers after " + seconds[i], room.wouldMean(1, seconds[i]), due[i]);
        }
        room.pause(1);
        room.pass(50);
        Due.is("16 not the pause there", room.wouldMean(1, 3), 6);
        Due.is("16 changes nothing", room.count(14), 5);
    }

    private static void turnsIn() {
        PauseLexicons room = Rooms.with(0, 5, 1, 5, 1, 5);
        Due.is("17 no table -1", room.turnsIn(-1), NO_SUCH);
        Due.is("17 no table 3", room.turnsIn(3), NO_SUCH);
        Due.is("17 no table LOW", room.turnsIn(LOW), NO_SUCH);
        Due.is("17 no pause", room.turnsIn(0), NOT_POSSIBLE);
        Due.is("17 nobody", room.turnsIn(2), NOT_POSSIBLE);
        room.pause(0);
        room.pause(1);
        int[] alone = {3, 2, 1, 8, 7, 6, 5, 4, 3, 2, 1, NONE, NONE, NONE, NONE, NONE, NONE};
        int[] pair = {3, 2, 1, 4, 3, 2, 1, 4, 3, 2, 1, NONE, NONE, NONE, NONE, NONE, NONE};
        for (int second = 0; second < alone.length; second++) {
            Due.is("17 alone after " + second, room.turnsIn(0), alone[second]);
            Due.is("17 a pair after " + second, room.turnsIn(1), pair[second]);
            room.pass(1);
        }
        room.set(PauseLexicons.SHORT, 20);
        room.set(PauseLexicons.STEP, 20);
        Due.is("17 by the settings", room.turnsIn(0), 3);
        PauseLexicons three = Rooms.with(0, 5, 0, 5, 0, 5, 1, 5, 1, 6, 1, 5);
        three.pause(0);
        three.pause(1);
        three.pass(3);
        Due.is("17 agreement", three.turnsIn(0), 4);
        Due.is("17 respect", three.turnsIn(1), 8);
        three.pass(4);
        Due.is("17 doubt", three.turnsIn(0), 8);
        Due.is("17 respect", three.turnsIn(1), 4);
        three.pass(4);
        Due.is("17 fear", three.turnsIn(1), 4);
        three.pass(4);
        Due.is("17 boredom", three.turnsIn(0), NONE);
        Due.is("17 the end of the evening", three.turnsIn(1), NONE);
        PauseLexicons late = Rooms.with(0, 5);
        Rooms.pass(late, 9999);
        late.pause(0);
        Due.is("17 the end of time is not asked for", late.turnsIn(0), 3);
    }

    private static void lender() {
        PauseLexicons room = Rooms.with(0, 5, 0, 3, 0, 3, 1, 1);
        Due.is("18 nobody -1", room.lender(-1), NO_SUCH);
        Due.is("18 nobody 4", room.lender(4), NO_SUCH);
        Due.is("18 nobody HIGH", room.lender(HIGH), NO_SUCH);
        Due.is("18 without a pause", room.lender(0), 1);
        Due.is("18 not from oneself", room.lender(1), 2);
        Due.is("18 from the lowest number", room.lender(2), 1);
        Due.is("18 alone", room.lender(3), NONE);
        room.set(PauseLexicons.LEND, 1);
        room.guest(0, 1);
        Due.is("18 the lowest rank", room.lender(0), 4);
        room.pause(0);
        Due.is("18 as it is borrowed", room.cough(0), 4);
        Due.is("18 has none left", room.lender(0), 1);
        room.leave(1);
        Due.is("18 not from who has left", room.lender(0), 2);
        Due.is("18 has left", room.lender(1), NOT_POSSIBLE);
        Due.is("18 changes nothing", room.of(2, 3), 2);
        PauseLexicons high = Rooms.with(0, 9, 0, 9);
        Due.is("18 of the highest rank", high.lender(0), 1);
    }

    private static void without() {
        PauseLexicons room = Rooms.with(0, 5, 0, 5, 0, 5, 0, 9, 1, 4);
        Due.is("19 nobody -1", room.without(-1), NO_SUCH);
        Due.is("19 nobody 5", room.without(5), NO_SUCH);
        Due.is("19 nobody LOW", room.without(LOW), NO_SUCH);
        Due.is("19 no pause", room.without(0), NOT_POSSIBLE);
        room.pause(0);
        Due.is("19 no pause at the own table", room.without(4), NOT_POSSIBLE);
        Due.is("19 too short", room.without(3), 0);
        room.pass(15);
        Due.is("19 peers", room.without(3), 8);
        Due.is("19 a court still", room.without(0), 11);
        room.leave(3);
        Due.is("19 has left", room.without(3), NOT_POSSIBLE);
        Due.is("19 a pair", room.without(2), 5);
        room.leave(2);
        Due.is("19 alone", room.without(1), 2);
        room.leave(1);
        Due.is("19 nobody is there then", room.without(0), 0);
        Due.is("19 changes nothing", room.table(0, 4), 2);
    }

    private static void usual() {
        PauseLexicons room = Rooms.with(0, 5, 1, 5, 1, 5);
        Due.is("20 none", room.usual(), NONE);
        room.pause(0);
        room.close(0);
        Due.is("20 nothing is no meaning", room.usual(), NONE);
        int[] tables = {1, 0, 1, 1, 0};
        int[] seconds = {11, 3, 11, 3, 5};
        int[] due = {5, 1, 5, 5, 1};
        for (int i = 0; i < due.length; i++) {
            room.pause(tables[i]);
            room.pass(seconds[i]);
            room.close(tables[i]);
            Due.is("20 after " + i, room.usual(), due[i]);
        }
        PauseLexicons court = Rooms.with(0, 1, 0, 2, 0, 3);
        court.pause(0);
        court.pass(15);
        court.close(0);
        Due.is("20 the highest", court.usual(), 11);
        Due.is("15 the highest, as a set", court.count(7), 1 << 11);
    }

    private static void put() {
        PauseLexicons room = new PauseLexicons();
        Due.is("21 no character", room.put(0), BAD_VALUE);
        Due.is("21 code 32", room.put(32), BAD_VALUE);
        Due.is("21 code 127", room.put(127), BAD_VALUE);
        Due.is("21 code 255", room.put(255), BAD_VALUE);
        Due.is("21 code 1 above", room.put(0x0141L), BAD_VALUE);
        Due.is("21 the last is missing", room.put(0x4100L), BAD_VALUE);
        Due.is("21 a gap", room.put(0x410041L), BAD_VALUE);
        Due.is("21 a bit far above", room.put(1L << 63 | 'A'), BAD_VALUE);
        Due.is("21 a bit above seven", room.put(0x0141414141414141L), BAD_VALUE);
        Due.is("21 a wrong first of eight", room.put(0x7F41414141414141L), BAD_VALUE);
        Due.is("21 all bits", room.put(-1), BAD_VALUE);
        Due.is("21 lowest long", room.put(Long.MIN_VALUE), BAD_VALUE);
        Due.is("21 highest long", room.put(Long.MAX_VALUE), BAD_VALUE);
        Due.is("21 nothing came of it", room.count(13), 0);
        Due.is("21 code 33", room.put(33), 1);
        Due.is("21 code 126", room.put(126), 2);
        Due.is("21 code 48 above", room.put(0x3030), 4);
        for (int size = 1; size <= 8; size++) {
            room.wipe();
            Due.is("21 " + size + " characters", room.put(Due.packed("~~~~~~~~".substring(0, size))), size);
        }
        room.wipe();
        Due.is("21 seventy-nine", Due.write(room, "g".repeat(79)), 79);
        Due.is("21 too long", room.put(Due.packed("xy")), TOO_MANY);
        Due.is("21 wrong and too long", room.put(Due.packed("x ")), BAD_VALUE);
        Due.is("21 the last one", room.put(Due.packed("x")), 80);
        Due.is("21 full", room.put(Due.packed("x")), TOO_MANY);
        Due.is("21 full", room.count(13), 80);
        Due.is("21 no change", room.count(14), 0);
        room.wipe();
        room.put(Due.packed("g1"));
        room.put(Due.packed(".7"));
        Due.is("21 in their order", room.carryOut(), 1);
        Due.is("21 in their order", room.of(0, 0) * 10 + room.of(0, 1), 17);
    }

    private static void wipe() {
        PauseLexicons room = new PauseLexicons();
        Due.is("22 empty", room.wipe(), 0);
        Due.write(room, "x0");
        Due.is("22 two", room.wipe(), 2);
        Due.is("22 is empty", room.count(13), 0);
        Due.is("22 nothing stays", Due.write(room, "p"), 1);
        Due.is("22 nothing stays", room.fault(), 1);
        Due.is("22 no change", room.count(14), 0);
    }

    private static void faultOf(String text, int due) {
        PauseLexicons room = new PauseLexicons();
        Due.write(room, text);
        Due.is("23 fault of '" + text + "'", room.fault(), due);
        Due.is("23 the pad stays", room.count(13), text.length());
        if (due != NONE) {
            Due.is("24 '" + text + "' is not carried out", room.carryOut(), BAD_TEXT);
            Due.is("24 '" + text + "' stays", room.count(13), text.length());
            Due.is("24 nothing is recorded", room.count(14), 0);
        }
    }

    private static void fault() {
        String[] right = {"g0.0", "g9.9", "p0", "e9", "x0", "w99", "c10", "t7", "x9;w9", "x10;w0;c1", "p1;e1;g0.1"};
        for (String text : right) {
            faultOf(text, NONE);
        }
        String[] wrong = {"", "a", ";", "0", "G", "g", "g0", "g0.", "gx", "g/", "g:", "g0,", "g0;", "g0.x", "g0.12",
            "g00", "p", "pp", "p00", "p12", "p0.", "e", "e;", "e0e", "x", "xx", "x00", "x05", "x100", "x999", "x-",
            "x1.", "w", "w;", "w010", "c", "c123", "t", "t99t", "t9;", "x1;;", "x1;a", "x1;x", "x1;g1",
            "q0", "t0t"};
        int[] due = {0, 0, 0, 0, 0, 1, 2, 3, 1, 1, 1, 2, 2, 3, 4,
            2, 1, 1, 2, 2, 2, 1, 1, 2, 1, 1, 2, 2, 3, 3, 1,
            2, 1, 1, 2, 1, 3, 1, 3, 3, 3, 3, 4, 5,
            0, 2};
        for (int i = 0; i < wrong.length; i++) {
            faultOf(wrong[i], due[i]);
        }
        faultOf("x1;".repeat(26) + "x1", NONE);
        faultOf("x1;".repeat(26) + "x;", 79);
        faultOf("x1;".repeat(25) + "g1.1;", 80);
        for (char letter = 33; letter < 127; letter++) {
            String one = String.valueOf(letter);
            faultOf(one, "gxpewct".indexOf(letter) < 0 ? 0 : 1);
            boolean digit = letter >= '0' && letter <= '9';
            faultOf("w" + one, digit ? NONE : 1);
            faultOf("p" + one, digit ? NONE : 1);
            faultOf("w2" + one, digit ? NONE : letter == ';' ? 3 : 2);
            faultOf("w0" + one, letter == ';' ? 3 : 2);
            faultOf("w23" + one, letter == ';' ? 4 : 3);
            faultOf("p2" + one, letter == ';' ? 3 : 2);
            faultOf("g2" + one, letter == '.' ? 3 : 2);
        }
    }

    private static void carryOut() {
        PauseLexicons room = new PauseLexicons();
        Due.is("24 an empty pad", room.carryOut(), BAD_TEXT);
        Due.write(room, "g0.5;g1.3;g0.2;p0;t10;e0;p0;t3;w2;p0;c0;p1;t99;x1");
        Due.is("24 all", room.carryOut(), 14);
        Due.is("24 the pad is empty", room.count(13), 0);
        Due.is("24 one change", room.count(14), 1);
        Due.is("24 the time", room.count(0), 112);
        Due.is("24 guests", room.count(1), 0b101);
        Due.is("24 ranks", room.of(0, 1) * 100 + room.of(1, 1) * 10 + room.of(2, 1), 532);
        Due.is("24 a closed one", room.meaning(4, 1), 10);
        Due.is("24 a word", room.of(2, 5), 1);
        Due.is("24 a cough", room.end(0, 0), 2);
        Due.is("24 who lent it", room.of(2, 6), 1);
        Due.is("24 the host", room.of(0, 2), 1);
        Due.is("24 the table of one who left", room.table(1, 3), NONE);
        Due.is("24 undone at once", room.undo(), 0);
        Due.is("24 nothing has been", room.count(0), 0);
        Due.is("24 nobody came", room.of(0, 0), NO_SUCH);
        Due.is("24 the pad stays empty", room.count(13), 0);
    }

    private static void carryOutStops() {
        PauseLexicons room = Rooms.with(0, 5);
        Due.write(room, "p0;c0;t5;p3;t7");
        Due.is("24 nobody lends: no error", room.carryOut(), 3);
        Due.is("24 up to the error", room.count(0), 5);
        Due.is("24 the rest is gone", room.count(13), 0);
        Due.is("24 one change", room.count(14), 2);
        String[] errors = {"g3.1", "g0.0", "x9", "x99", "p5", "p1", "e9", "e0", "w1", "w0", "c7", "c0", "t0"};
        for (String text : errors) {
            Due.write(room, text + ";t1");
            Due.is("24 none of '" + text + "'", room.carryOut(), 0);
            Due.is("24 empty after '" + text + "'", room.count(13), 0);
        }
        Due.is("24 nothing is different", room.count(0), 5);
        Due.is("24 recorded all the same", room.count(14), 6);
        for (int left = 5; left >= 0; left--) {
            Due.is("24 undone", room.undo(), left);
            Due.is("24 to the same", room.count(0), 5);
        }
    }

    private static void undo() {
        PauseLexicons room = new PauseLexicons();
        Due.is("25 nothing to undo", room.undo(), NOT_POSSIBLE);
        for (int i = 1; i <= 9; i++) {
            room.pass(i);
            Due.is("25 six at most", room.count(14), Math.min(i, 6));
        }
        int[] times = {36, 28, 21, 15, 10, 6};
        for (int i = 0; i < 6; i++) {
            Due.is("25 left", room.undo(), 5 - i);
            Due.is("25 the time before", room.count(0), times[i]);
        }
        Due.is("25 the oldest are dropped", room.undo(), NOT_POSSIBLE);
        Due.is("25 changes nothing", room.count(0), 6);
        room.pass(50);
        Due.is("25 after it a new one", room.undo(), 0);
        Due.is("25 after it a new one", room.count(0), 6);

        PauseLexicons all = Rooms.with(0, 5, 0, 6);
        all.pause(0);
        all.pass(9);
        Due.write(all, "t1");
        all.close(0);
        all.undo();
        Due.is("25 the pause is back", all.table(0, 3), 9);
        Due.is("25 the end is gone", all.end(0, 0), NO_SUCH);
        Due.is("25 the meaning is gone", all.meaning(4, 0) + all.meaning(4, 1), 0);
        Due.is("25 no end there", all.table(0, 5) + all.count(3), 0);
        Due.is("25 the pad stays", all.count(13), 2);
        all.word(0);
        all.undo();
        Due.is("25 no faults", all.count(6), 0);
        Due.is("25 not broken", all.of(0, 5) + all.count(4), 0);
        all.cough(0);
        all.undo();
        Due.is("25 not lent", all.of(1, 6) * 10 + all.of(1, 3), 2);
        all.set(0, 9);
        all.undo();
        Due.is("25 the setting", all.count(9), 3);
        all.leave(1);
        all.undo();
        Due.is("25 back at the table", all.of(1, 0), 0);
        all.move(1, 2);
        all.undo();
        Due.is("25 back at the table", all.of(1, 0), 0);
        all.guest(1, 1);
        all.undo();
        Due.is("25 never came", all.of(2, 0), NO_SUCH);
        Due.is("25 the number is free", all.guest(2, 7), 2);
    }

    private static void undoRecordsEachChange() {
        PauseLexicons room = new PauseLexicons();
        Due.is("25 set", room.set(0, 3) * 100 + room.count(14), 301);
        Due.is("25 guest", room.guest(0, 5) * 100 + room.count(14), 2);
        Due.is("25 pause", room.pause(0) * 100 + room.count(14), 103);
        Due.is("25 pass", room.pass(3) * 100 + room.count(14), 104);
        Due.is("25 close", room.close(0) * 100 + room.count(14), 105);
        Due.is("25 move", room.move(0, 1) * 100 + room.count(14), 6);
        room.undo();
        room.undo();
        Due.is("25 word", room.word(0) * 100 + room.count(14), 105);
        room.undo();
        Due.is("25 cough", room.cough(0), NONE);
        Due.is("25 cough", room.count(14), 5);
        room.undo();
        Due.is("25 leave", room.leave(0) * 100 + room.count(14), 5);
        room.undo();
        Due.is("25 save is no change", room.save(0) * 100 + room.count(14), 104);
        Due.is("25 restore", room.restore(0) * 100 + room.count(14), 105);
        room.undo();
        Due.write(room, "t1");
        Due.is("25 put and wipe are no changes", room.wipe() * 100 + room.count(14), 204);
        room.turnsIn(0);
        room.lender(0);
        room.without(0);
        room.usual();
        room.fault();
        Due.is("25 nor are questions", room.count(14), 4);
    }

    /** A room at the time 7 with a pair at table 0, which keeps a pause, and one guest at table 1. */
    private static PauseLexicons evening() {
        PauseLexicons room = Rooms.with(0, 5, 0, 6, 1, 7);
        room.pause(0);
        room.save(0);
        room.pass(7);
        return room;
    }

    private static void undone(String change, PauseLexicons room, int answer) {
        Due.holds("25 " + change + " is carried out", answer >= 0 || answer == NONE);
        Due.is("25 undo " + change, room.undo(), 5);
        int[] counts = {7, 0b111, 1, 0, 0, 0, 0, 0, 6, 3, 4, 2, 1};
        for (int what = 0; what < counts.length; what++) {
            Due.is("25 count(" + what + ") after undo of " + change, room.count(what), counts[what]);
        }
        int[][] guests = {{0, 5, 0, 2, 0, 0, 0}, {0, 6, 0, 2, 1, 0, 0}, {1, 7, 0, 2, 1, 0, 0}};
        for (int guest = 0; guest < 3; guest++) {
            for (int what = 0; what < 7; what++) {
                Due.is("25 of(" + guest + ", " + what + ") after undo of " + change, room.of(guest, what),
                    guests[guest][what]);
            }
        }
        int[] table = {0b11, 1, 2, 7, 4, 0};
        for (int what = 0; what < 6; what++) {
            Due.is("25 table(0, " + what + ") after undo of " + change, room.table(0, what), table[what]);
        }
        Due.is("25 no fourth guest after undo of " + change, room.of(3, 0), NO_SUCH);
        Due.is("25 no end after undo of " + change, room.end(0, 0), NO_SUCH);
        Due.is("25 no pause at table 1 after undo of " + change, room.table(1, 3), NONE);
        Due.is("25 no meaning after undo of " + change, room.meaning(4, 0) + room.meaning(4, 1), 0);
    }

    private static void undoOfEachChange() {
        PauseLexicons room = evening();
        undone("set", room, room.set(0, 9));
        room = evening();
        undone("guest", room, room.guest(0, 9));
        room = evening();
        undone("leave", room, room.leave(1));
        room = evening();
        undone("move", room, room.move(1, 1));
        room = evening();
        undone("pause", room, room.pause(1));
        room = evening();
        undone("close", room, room.close(0));
        room = evening();
        undone("word", room, room.word(0));
        room = evening();
        undone("cough", room, room.cough(0));
        room = evening();
        undone("pass", room, room.pass(30));
        room = evening();
        undone("restore", room, room.restore(0));
        room = evening();
        Due.write(room, "g1.1;e0;p0;t20;c1;w2");
        undone("carryOut", room, room.carryOut());
    }

    private static void undoKeepsStatesApart() {
        PauseLexicons room = new PauseLexicons();
        for (int i = 0; i < 8; i++) {
            room.pass(1);
        }
        room.pass(100);
        room.leave(0);
        for (int i = 7; i >= 2; i--) {
            room.undo();
            Due.is("25 an error touches no state that is kept", room.count(0), i);
        }
        PauseLexicons ends = Rooms.with(0, 5);
        for (int seconds = 3; seconds <= 5; seconds++) {
            ends.pause(0);
            ends.pass(seconds);
            ends.close(0);
        }
        ends.undo();
        Due.is("25 the end before is the latest again", ends.end(0, 2), 4);
        Due.is("25 and the one before that", ends.end(1, 2), 3);
        Due.is("25 not so many", ends.end(2, 2), NO_SUCH);
    }

    private static void save() {
        PauseLexicons room = Rooms.with(0, 5, 1, 6);
        Due.is("26 no slot -1", room.save(-1), BAD_VALUE);
        Due.is("26 no slot 2", room.save(2), BAD_VALUE);
        Due.is("26 no slot LOW", room.save(LOW), BAD_VALUE);
        Due.is("26 no slot HIGH", room.save(HIGH), BAD_VALUE);
        room.leave(1);
        Due.is("26 also those who left", room.save(0), 2);
        Due.is("26 no change", room.count(14), 3);
        room.guest(2, 1);
        Due.is("26 the other slot", room.save(1), 3);
        room.pass(8);
        room.restore(0);
        Due.is("26 each slot its own", room.of(2, 0), NO_SUCH);
        room.restore(1);
        Due.is("26 each slot its own", room.of(2, 0), 2);
        Due.is("26 the time", room.count(0), 0);
        room.pass(4);
        room.save(0);
        room.restore(1);
        room.restore(0);
        Due.is("26 overwritten", room.count(0), 4);
        PauseLexicons ranks = Rooms.with(0, 5);
        ranks.save(0);
        ranks.undo();
        ranks.guest(1, 8);
        ranks.restore(0);
        Due.is("27 the guest who was saved", ranks.of(0, 0) * 10 + ranks.of(0, 1), 5);
    }

    private static void restore() {
        PauseLexicons room = Rooms.with(0, 5, 0, 6);
        Due.is("27 no slot -1", room.restore(-1), BAD_VALUE);
        Due.is("27 no slot 2", room.restore(2), BAD_VALUE);
        Due.is("27 no slot HIGH", room.restore(HIGH), BAD_VALUE);
        Due.is("27 nothing saved", room.restore(1), NOT_POSSIBLE);
        room.set(1, 7);
        room.pause(0);
        room.pass(10);
        Due.is("27 errors record nothing", room.count(14), 5);
        room.save(1);
        room.close(0);
        room.set(1, 20);
        room.leave(0);
        room.guest(1, 9);
        Due.write(room, "x0;");
        Due.is("27 guests then", room.restore(1), 2);
        Due.is("27 the pause", room.table(0, 3), 10);
        Due.is("27 the setting", room.count(10), 7);
        Due.is("27 the lexicon", room.count(7), 0);
        Due.is("27 the ends", room.end(0, 0), NO_SUCH);
        Due.is("27 who left", room.of(0, 0), 0);
        Due.is("27 who came", room.of(2, 0), NO_SUCH);
        Due.is("27 not the pad", room.count(13), 3);
        Due.is("27 a change", room.count(14), 6);
        room.word(0);
        Due.is("27 the slot keeps it", room.restore(1), 2);
        Due.is("27 the slot keeps it", room.count(6), 0);
        Due.is("27 undone", room.undo(), 5);
        Due.is("27 undone", room.of(0, 2), 1);
        room.undo();
        room.undo();
        Due.is("27 undone", room.of(2, 1), 9);
        Due.is("27 undo leaves the slots", room.restore(1), 2);
        Due.is("27 the other one is still empty", room.restore(0), NOT_POSSIBLE);
    }
}
