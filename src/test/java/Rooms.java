/** Rooms in which tests begin. */
final class Rooms {
    static final int LAST_TIME = 9999;

    private Rooms() {
    }

    static PauseLexicons with(int... tablesAndRanks) {
        PauseLexicons room = new PauseLexicons();
        for (int i = 0; i < tablesAndRanks.length; i += 2) {
            room.guest(tablesAndRanks[i], tablesAndRanks[i + 1]);
        }
        return room;
    }

    static void pass(PauseLexicons room, int seconds) {
        for (int left = seconds; left > 0; left -= 99) {
            room.pass(Math.min(99, left));
        }
    }

    /** At table 0: 0 nobody, 1 one guest, 2 a pair, 3 peers, 4 a court. */
    static PauseLexicons company(int company) {
        int[][] ranks = {{}, {5}, {5, 5}, {5, 5, 5}, {5, 5, 6}};
        PauseLexicons room = new PauseLexicons();
        for (int rank : ranks[company]) {
            room.guest(0, rank);
        }
        return room;
    }

    /** Ten guests, all at table 0, of rank 5. */
    static PauseLexicons full() {
        return with(0, 5, 0, 5, 0, 5, 0, 5, 0, 5, 0, 5, 0, 5, 0, 5, 0, 5, 0, 5);
    }

    /** One guest at table 0 and a pause there, which is as old as the room: the time is the last one. */
    static PauseLexicons late() {
        PauseLexicons room = with(0, 5);
        room.pause(0);
        pass(room, LAST_TIME);
        return room;
    }

    /**
     * Something of everything, so that a change would show: guests 0 to 2 keep a pause of 8 seconds at table 0, guest 3
     * is alone at table 1 without one, nobody is at table 2, guest 4 has left; three ends, one of each kind; six
     * changes that can be undone; slot 0 is saved, slot 1 is not; "t5;w0" is on the pad.
     */
    static PauseLexicons evening() {
        PauseLexicons room = with(0, 5, 0, 7, 0, 5, 1, 2, 0, 9);
        room.pause(0);
        room.pass(4);
        room.close(0);
        room.save(0);
        room.pause(0);
        room.word(2);
        room.pause(1);
        room.cough(3);
        room.pause(0);
        room.leave(4);
        room.pass(8);
        Due.write(room, "t5;w0");
        return room;
    }

    /** One guest, nothing saved. */
    static PauseLexicons company1() {
        return company(1);
    }

    /** As evening(), but with a fault at the end of the pad. */
    static PauseLexicons badText() {
        PauseLexicons room = evening();
        room.put(';');
        return room;
    }

    /** As evening(), but with no change left to undo. */
    static PauseLexicons undone() {
        PauseLexicons room = evening();
        Twins.undo(room, 6);
        return room;
    }
}
