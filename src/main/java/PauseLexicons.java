/** A room of three tables whose silences are timed, named and told: ../shared/DOC.md says what each call answers. */
public final class PauseLexicons {
    public static final int NO_SUCH = -1, BAD_VALUE = -2, BAD_TEXT = -3, TOO_MANY = -4, NOT_POSSIBLE = -5, NONE = -6;
    public static final int SHORT = 0, STEP = 1, LEND = 2, SHAME = 3;

    private static final int TABLES = 3, GUESTS = 10, HIGHEST_RANK = 9;
    private static final int LONGEST_PASS = 99, LAST_TIME = 9999, LONGEST_QUESTION = 999;
    private static final int MEANINGS = 11, SHADES = 4, PEERS = 3, COURT = 4;
    private static final int CLOSED = 0, BY_WORD = 1, BY_COUGH = 2, WAYS_TO_END = 3;
    private static final int ENDS = 10, END_PARTS = 5;
    private static final int UNDOS = 6, SLOTS = 2;
    private static final int PAD_LENGTH = 80, PUT_LENGTH = 8, BITS = 8, BYTE = 255, FIRST_CODE = 33, LAST_CODE = 126;

    private static final int[] FIRST_SETTINGS = {3, 4, 2, 1};
    private static final int[] HIGHEST_SETTINGS = {20, 20, 9, 9};

    // A row for each company, from nobody to a court; a column for each shade.
    private static final int[] MEANING_BY_COMPANY = {
        0, 0, 0, 0,
        1, 1, 2, 2,
        3, 4, 5, 5,
        6, 7, 7, 8,
        9, 9, 10, 11
    };

    private final Room room = new Room();
    private final History history = new History();
    private final Slots slots = new Slots();
    private final Pad pad = new Pad();

    public PauseLexicons() {
    }

    // ---- changes

    public int set(int setting, int value) {
        history.noteBefore(room);
        return keptUnlessError(room.changeSetting(setting, value));
    }

    public int guest(int table, int rank) {
        history.noteBefore(room);
        return keptUnlessError(room.welcome(table, rank));
    }

    public int leave(int guest) {
        history.noteBefore(room);
        return keptUnlessError(room.seeOff(guest));
    }

    public int move(int guest, int table) {
        history.noteBefore(room);
        return keptUnlessError(room.reseat(guest, table));
    }

    public int pause(int table) {
        history.noteBefore(room);
        return keptUnlessError(room.beginPause(table));
    }

    public int close(int table) {
        history.noteBefore(room);
        return keptUnlessError(room.closePause(table));
    }

    public int word(int guest) {
        history.noteBefore(room);
        return keptUnlessError(room.breakByWord(guest));
    }

    public int cough(int guest) {
        history.noteBefore(room);
        return keptUnlessError(room.breakByCough(guest));
    }

    public int pass(int seconds) {
        history.noteBefore(room);
        return keptUnlessError(room.letPass(seconds));
    }

    // ---- what there is

    public int of(int guest, int what) {
        Guests guests = room.guests;
        if (!guests.isKnown(guest)) {
            return NO_SUCH;
        }
        switch (what) {
            case 0: return guests.seats[guest];
            case 1: return guests.ranks[guest];
            case 2: return guests.faults[guest];
            case 3: return guests.coughs[guest];
            case 4: return guests.isHost(guest) ? 1 : 0;
            case 5: return guests.broken[guest];
            case 6: return guests.lent[guest];
            default: return BAD_VALUE;
        }
    }

    public int table(int table, int what) {
        if (!isTable(table)) {
            return NO_SUCH;
        }
        switch (what) {
            case 0: return room.guests.setAt(table);
            case 1: return room.guests.hostOf(table);
            case 2: return room.guests.companyOf(table, NONE);
            case 3: return room.pauses[table];
            case 4: return room.pauses[table] == NONE ? NONE : room.meaningNow(table, NONE);
            case 5: return room.ended[table];
            default: return BAD_VALUE;
        }
    }

    public int meaning(int meaning, int what) {
        if (meaning < 1 || meaning > MEANINGS) {
            return NO_SUCH;
        }
        switch (what) {
            case 0: return room.lexicon.often[meaning];
            case 1: return room.lexicon.longest[meaning];
            default: return BAD_VALUE;
        }
    }

    public int end(int rank, int what) {
        if (rank < 0 || rank >= room.lexicon.told) {
            return NO_SUCH;
        }
        if (what < 0 || what >= END_PARTS) {
            return BAD_VALUE;
        }
        return room.lexicon.ends[rank * END_PARTS + what];
    }

    public int count(int what) {
        switch (what) {
            case 0: return room.time;
            case 1: return room.guests.setOfThoseHere();
            case 2: return room.pausesThatGoOn();
            case 3: return room.lexicon.endings[CLOSED];
            case 4: return room.lexicon.endings[BY_WORD];
            case 5: return room.lexicon.endings[BY_COUGH];
            case 6: return room.guests.faultsOfAll();
            case 7: return room.lexicon.setOfMeant();
            case 8: return room.guests.coughsOfThoseHere();
            case 9: return room.settings[SHORT];
            case 10: return room.settings[STEP];
            case 11: return room.settings[LEND];
            case 12: return room.settings[SHAME];
            case 13: return pad.length;
            case 14: return history.kept;
            default: return BAD_VALUE;
        }
    }

    // ---- what if; nothing changes

    public int wouldMean(int table, int seconds) {
        if (!isTable(table)) {
            return NO_SUCH;
        }
        if (seconds < 0 || seconds > LONGEST_QUESTION) {
            return BAD_VALUE;
        }
        return room.meaningFor(room.guests.companyOf(table, NONE), seconds);
    }

    public int turnsIn(int table) {
        if (!isTable(table)) {
            return NO_SUCH;
        }
        return room.pauses[table] == NONE ? NOT_POSSIBLE : room.secondsToTurn(table);
    }

    public int lender(int guest) {
        if (!room.guests.isKnown(guest)) {
            return NO_SUCH;
        }
        int table = room.guests.seats[guest];
        return table == NONE ? NOT_POSSIBLE : room.guests.lenderTo(guest, table);
    }

    public int without(int guest) {
        int error = room.errorOfBreak(guest);
        if (error != 0) {
            return error;
        }
        return room.meaningNow(room.guests.seats[guest], guest);
    }

    public int usual() {
        return room.lexicon.mostMeant();
    }

    // ---- texts

    public int put(long characters) {
        return pad.append(characters);
    }

    public int wipe() {
        return pad.clear();
    }

    public int fault() {
        return pad.firstFault();
    }

    public int carryOut() {
        if (pad.firstFault() != NONE) {
            return BAD_TEXT;
        }
        history.noteBefore(room);
        int done = obeyOrders();
        pad.clear();
        history.keepNoted();
        return done;
    }

    // ---- undo, saving

    public int undo() {
        return history.takeBack(room);
    }

    public int save(int slot) {
        return slots.keep(slot, room);
    }

    public int restore(int slot) {
        history.noteBefore(room);
        return keptUnlessError(slots.giveBack(slot, room));
    }

    private int keptUnlessError(int answer) {
        if (!isError(answer)) {
            history.keepNoted();
        }
        return answer;
    }

    // NONE is below the error codes, and is none of them: a cough that nobody lent is carried out, too.
    private static boolean isError(int answer) {
        return answer <= NO_SUCH && answer >= NOT_POSSIBLE;
    }

    private static boolean isTable(int table) {
        return table >= 0 && table < TABLES;
    }

    // Only for a pad without a fault.
    private int obeyOrders() {
        int done = 0;
        int from = 0;
        for (int to = 1; to <= pad.length; to++) {
            if (pad.isEndOfOrder(to)) {
                if (isError(obeyOrder(from, to))) {
                    return done;
                }
                done++;
                from = to + 1;
            }
        }
        return done;
    }

    private int obeyOrder(int from, int to) {
        int last = pad.lastNumber(from, to);
        switch (pad.codes[from]) {
            case 'g': return room.welcome(pad.firstDigit(from, to), last);
            case 'x': return room.seeOff(last);
            case 'p': return room.beginPause(last);
            case 'e': return room.closePause(last);
            case 'w': return room.breakByWord(last);
            case 'c': return room.breakByCough(last);
            default: return room.letPass(last);
        }
    }

    /** Everything that undo and the slots bring back. */
    private static final class Room {
        int time = 0;
        final int[] settings = FIRST_SETTINGS.clone();
        final Guests guests = new Guests();
        final Lexicon lexicon = new Lexicon();
        final int[] pauses = {NONE, NONE, NONE};
        final int[] ended = new int[TABLES];

        void copyFrom(Room other) {
            time = other.time;
            System.arraycopy(other.settings, 0, settings, 0, settings.length);
            guests.copyFrom(other.guests);
            lexicon.copyFrom(other.lexicon);
            System.arraycopy(other.pauses, 0, pauses, 0, TABLES);
            System.arraycopy(other.ended, 0, ended, 0, TABLES);
        }

        int changeSetting(int setting, int value) {
            if (setting < 0 || setting >= settings.length) {
                return BAD_VALUE;
            }
            if (value < 1 || value > HIGHEST_SETTINGS[setting]) {
                return BAD_VALUE;
            }
            int previous = settings[setting];
            settings[setting] = value;
            return previous;
        }

        int welcome(int table, int rank) {
            if (!isTable(table)) {
                return NO_SUCH;
            }
            if (rank < 1 || rank > HIGHEST_RANK) {
                return BAD_VALUE;
            }
            return guests.add(table, rank, settings[LEND]);
        }

        int seeOff(int guest) {
            if (!guests.isKnown(guest)) {
                return NO_SUCH;
            }
            int table = guests.seats[guest];
            if (table == NONE) {
                return NOT_POSSIBLE;
            }
            guests.seats[guest] = NONE;
            dropPauseOfNobody(table);
            return Integer.bitCount(guests.setAt(table));
        }

        int reseat(int guest, int table) {
            if (!guests.isKnown(guest) || !isTable(table)) {
                return NO_SUCH;
            }
            int left = guests.seats[guest];
            if (left == NONE || left == table) {
                return NOT_POSSIBLE;
            }
            guests.seats[guest] = table;
            dropPauseOfNobody(left);
            return left;
        }

        int beginPause(int table) {
            if (!isTable(table)) {
                return NO_SUCH;
            }
            int company = guests.companyOf(table, NONE);
            if (pauses[table] != NONE || company == 0) {
                return NOT_POSSIBLE;
            }
            pauses[table] = 0;
            return company;
        }

        int closePause(int table) {
            if (!isTable(table)) {
                return NO_SUCH;
            }
            if (pauses[table] == NONE) {
                return NOT_POSSIBLE;
            }
            int meaning = meaningNow(table, NONE);
            lexicon.enterMeaning(meaning, pauses[table]);
            endPause(CLOSED, table, meaning, NONE);
            return meaning;
        }

        int breakByWord(int guest) {
            int error = errorOfBreak(guest);
            if (error != 0) {
                return error;
            }
            int table = guests.seats[guest];
            int host = guests.hostOf(table);
            guests.faults[guest] += settings[SHAME];
            if (host != NONE && host != guest) {
                guests.faults[host]++;
            }
            guests.broken[guest]++;
            endPause(BY_WORD, table, 0, guest);
            return guests.faults[guest];
        }

        int breakByCough(int guest) {
            int error = errorOfBreak(guest);
            if (error != 0) {
                return error;
            }
            int table = guests.seats[guest];
            int lender = guests.lenderTo(guest, table);
            if (lender == NONE) {
                guests.faults[guest] += settings[SHAME];
            } else {
                guests.coughs[lender]--;
                guests.lent[lender]++;
            }
            guests.broken[guest]++;
            endPause(BY_COUGH, table, 0, guest);
            return lender;
        }

        int letPass(int seconds) {
            if (seconds < 1 || seconds > LONGEST_PASS) {
                return BAD_VALUE;
            }
            if (time + seconds > LAST_TIME) {
                return NOT_POSSIBLE;
            }
            time += seconds;
            int meant = 0;
            for (int table = 0; table < TABLES; table++) {
                if (pauses[table] != NONE) {
                    pauses[table] += seconds;
                    meant += meaningNow(table, NONE) == 0 ? 0 : 1;
                }
            }
            return meant;
        }

        // 0 if the guest sits at a table that keeps a pause.
        int errorOfBreak(int guest) {
            if (!guests.isKnown(guest)) {
                return NO_SUCH;
            }
            int table = guests.seats[guest];
            return isTable(table) && pauses[table] != NONE ? 0 : NOT_POSSIBLE;
        }

        // Such a pause is told nowhere, and not among those that ended at the table.
        private void dropPauseOfNobody(int table) {
            if (guests.setAt(table) == 0) {
                pauses[table] = NONE;
            }
        }

        private void endPause(int how, int table, int meaning, int who) {
            lexicon.tellEnd(how, table, pauses[table], meaning, who);
            ended[table]++;
            pauses[table] = NONE;
        }

        int pausesThatGoOn() {
            int going = 0;
            for (int table = 0; table < TABLES; table++) {
                going += pauses[table] == NONE ? 0 : 1;
            }
            return going;
        }

        int meaningNow(int table, int absent) {
            return meaningFor(guests.companyOf(table, absent), pauses[table]);
        }

        int meaningFor(int company, int seconds) {
            if (seconds < settings[SHORT]) {
                return 0;
            }
            int shade = 0;
            for (int darker = 1; darker < SHADES; darker++) {
                if (seconds >= beginOfShade(darker)) {
                    shade = darker;
                }
            }
            return MEANING_BY_COMPANY[company * SHADES + shade];
        }

        // A meaning only turns where a shade begins; the end of time (LAST_TIME) is not asked for.
        int secondsToTurn(int table) {
            int company = guests.companyOf(table, NONE);
            int seconds = pauses[table];
            int now = meaningFor(company, seconds);
            for (int shade = 0; shade < SHADES; shade++) {
                int begin = beginOfShade(shade);
                if (begin > seconds && meaningFor(company, begin) != now) {
                    return begin - seconds;
                }
            }
            return NONE;
        }

        private int beginOfShade(int shade) {
            return settings[SHORT] + shade * settings[STEP];
        }
    }

    /** All who have come, by their numbers; who has left keeps the number, and has NONE for a seat. */
    private static final class Guests {
        int came = 0;
        final int[] seats = new int[GUESTS];
        final int[] ranks = new int[GUESTS];
        final int[] faults = new int[GUESTS];
        final int[] coughs = new int[GUESTS];
        final int[] broken = new int[GUESTS];
        final int[] lent = new int[GUESTS];

        void copyFrom(Guests other) {
            came = other.came;
            System.arraycopy(other.seats, 0, seats, 0, GUESTS);
            System.arraycopy(other.ranks, 0, ranks, 0, GUESTS);
            System.arraycopy(other.faults, 0, faults, 0, GUESTS);
            System.arraycopy(other.coughs, 0, coughs, 0, GUESTS);
            System.arraycopy(other.broken, 0, broken, 0, GUESTS);
            System.arraycopy(other.lent, 0, lent, 0, GUESTS);
        }

        int add(int table, int rank, int lend) {
            if (came >= GUESTS) {
                return TOO_MANY;
            }
            // Nothing else is set: an undone guest's faults, breaks and loans went with the copy.
            seats[came] = table;
            ranks[came] = rank;
            coughs[came] = lend;
            came++;
            return came - 1;
        }

        boolean isKnown(int guest) {
            return guest >= 0 && guest < came;
        }

        boolean isHost(int guest) {
            return seats[guest] != NONE && hostOf(seats[guest]) == guest;
        }

        int setAt(int table) {
            int set = 0;
            for (int guest = 0; guest < came; guest++) {
                if (seats[guest] == table) {
                    set |= 1 << guest;
                }
            }
            return set;
        }

        int setOfThoseHere() {
            int set = 0;
            for (int table = 0; table < TABLES; table++) {
                set |= setAt(table);
            }
            return set;
        }

        int hostOf(int table) {
            int host = NONE;
            int highest = 0;
            for (int guest = 0; guest < came; guest++) {
                if (seats[guest] == table && ranks[guest] > highest) {
                    host = guest;
                    highest = ranks[guest];
                }
            }
            return host;
        }

        // NONE as the absent one leaves nobody out.
        int companyOf(int table, int absent) {
            int heads = 0;
            int firstRank = 0;
            boolean oneRank = true;
            for (int guest = 0; guest < came; guest++) {
                if (seats[guest] == table && guest != absent) {
                    firstRank = heads == 0 ? ranks[guest] : firstRank;
                    oneRank = oneRank && ranks[guest] == firstRank;
                    heads++;
                }
            }
            if (heads < PEERS) {
                return heads;
            }
            return oneRank ? PEERS : COURT;
        }

        int lenderTo(int guest, int table) {
            int lender = NONE;
            int lowest = HIGHEST_RANK + 1;
            for (int other = 0; other < came; other++) {
                if (other != guest && seats[other] == table && coughs[other] > 0 && ranks[other] < lowest) {
                    lender = other;
                    lowest = ranks[other];
                }
            }
            return lender;
        }

        int faultsOfAll() {
            int sum = 0;
            for (int guest = 0; guest < came; guest++) {
                sum += faults[guest];
            }
            return sum;
        }

        int coughsOfThoseHere() {
            int sum = 0;
            for (int guest = 0; guest < came; guest++) {
                sum += seats[guest] == NONE ? 0 : coughs[guest];
            }
            return sum;
        }
    }

    /** What was meant, and the latest ends of pauses. */
    private static final class Lexicon {
        // Index 0 stays unused: a pause that means nothing is not entered.
        final int[] often = new int[MEANINGS + 1];
        final int[] longest = new int[MEANINGS + 1];
        final int[] endings = new int[WAYS_TO_END];
        // The latest end stands first, each in END_PARTS places in the order in which end() numbers them.
        final int[] ends = new int[ENDS * END_PARTS];
        int told = 0;

        void copyFrom(Lexicon other) {
            told = other.told;
            System.arraycopy(other.often, 0, often, 0, often.length);
            System.arraycopy(other.longest, 0, longest, 0, longest.length);
            System.arraycopy(other.endings, 0, endings, 0, endings.length);
            System.arraycopy(other.ends, 0, ends, 0, ends.length);
        }

        void enterMeaning(int meaning, int seconds) {
            if (meaning < 1 || meaning > MEANINGS) {
                return;
            }
            often[meaning]++;
            longest[meaning] = Math.max(longest[meaning], seconds);
        }

        void tellEnd(int how, int table, int seconds, int meaning, int who) {
            System.arraycopy(ends, 0, ends, END_PARTS, ends.length - END_PARTS);
            ends[0] = how;
            ends[1] = table;
            ends[2] = seconds;
            ends[3] = meaning;
            ends[4] = who;
            told = Math.min(told + 1, ENDS);
            endings[how]++;
        }

        int setOfMeant() {
            int set = 0;
            for (int meaning = 1; meaning <= MEANINGS; meaning++) {
                if (often[meaning] > 0) {
                    set |= 1 << meaning;
                }
            }
            return set;
        }

        int mostMeant() {
            int most = NONE;
            int highest = 0;
            for (int meaning = 1; meaning <= MEANINGS; meaning++) {
                if (often[meaning] > highest) {
                    most = meaning;
                    highest = often[meaning];
                }
            }
            return most;
        }
    }

    /** The states before the latest changes. */
    private static final class History {
        // One more than can be undone: a state is noted before it is known whether the change succeeds.
        private final Room[] states = new Room[UNDOS + 1];
        int kept = 0;

        History() {
            for (int i = 0; i < states.length; i++) {
                states[i] = new Room();
            }
        }

        void noteBefore(Room room) {
            states[kept].copyFrom(room);
        }

        void keepNoted() {
            if (kept < UNDOS) {
                kept++;
                return;
            }
            // The dropped state's rows serve for the next note, so that no call makes new ones.
            Room dropped = states[0];
            for (int i = 0; i < UNDOS; i++) {
                states[i] = states[i + 1];
            }
            states[UNDOS] = dropped;
        }

        int takeBack(Room room) {
            if (kept == 0) {
                return NOT_POSSIBLE;
            }
            kept--;
            room.copyFrom(states[kept]);
            return kept;
        }
    }

    /** The saved states. */
    private static final class Slots {
        private final Room[] states = {new Room(), new Room()};
        private final boolean[] filled = new boolean[SLOTS];

        int keep(int slot, Room room) {
            if (slot < 0 || slot >= SLOTS) {
                return BAD_VALUE;
            }
            states[slot].copyFrom(room);
            filled[slot] = true;
            return room.guests.came;
        }

        int giveBack(int slot, Room room) {
            if (slot < 0 || slot >= SLOTS) {
                return BAD_VALUE;
            }
            if (!filled[slot]) {
                return NOT_POSSIBLE;
            }
            room.copyFrom(states[slot]);
            return room.guests.came;
        }
    }

    /** The text of orders, as the codes of its characters. */
    private static final class Pad {
        // What may stand next while a text is read; at LAST_DIGIT_OR_END and END the text may also end.
        private static final int WRONG = -1, ORDER = 0, FIRST_DIGIT = 1, DOT = 2, DIGIT = 3, NUMBER = 4,
            LAST_DIGIT_OR_END = 5, END = 6;

        final int[] codes = new int[PAD_LENGTH];
        int length = 0;

        int append(long characters) {
            int more = charactersIn(characters);
            if (more == 0) {
                return BAD_VALUE;
            }
            if (length + more > PAD_LENGTH) {
                return TOO_MANY;
            }
            for (int i = 0; i < more; i++) {
                codes[length + more - 1 - i] = codeOf(characters, i);
            }
            length += more;
            return length;
        }

        // 0 also if anything in the number is wrong.
        private static int charactersIn(long characters) {
            int more = 0;
            while (more < PUT_LENGTH && codeOf(characters, more) != 0) {
                int code = codeOf(characters, more);
                if (code < FIRST_CODE || code > LAST_CODE) {
                    return 0;
                }
                more++;
            }
            // Java shifts a long by 64 bits not at all, so that a full number must not come here.
            boolean bitsAboveEnd = more < PUT_LENGTH && characters >>> (more * BITS) != 0;
            return bitsAboveEnd ? 0 : more;
        }

        private static int codeOf(long characters, int fromLast) {
            return (int) (characters >>> (fromLast * BITS)) & BYTE;
        }

        int clear() {
            int had = length;
            length = 0;
            return had;
        }

        int firstFault() {
            int expected = ORDER;
            for (int i = 0; i < length; i++) {
                expected = expectedAfter(expected, codes[i]);
                if (expected == WRONG) {
                    return i;
                }
            }
            return expected == LAST_DIGIT_OR_END || expected == END ? NONE : length;
        }

        private static int expectedAfter(int expected, int code) {
            switch (expected) {
                case ORDER: return expectedAfterLetter(code);
                case FIRST_DIGIT: return isDigit(code) ? DOT : WRONG;
                case DOT: return code == '.' ? DIGIT : WRONG;
                case DIGIT: return isDigit(code) ? END : WRONG;
                case NUMBER:
                    // No digit follows a 0: a number has no leading zeros.
                    if (code == '0') {
                        return END;
                    }
                    return isDigit(code) ? LAST_DIGIT_OR_END : WRONG;
                case LAST_DIGIT_OR_END:
                    if (isDigit(code)) {
                        return END;
                    }
                    return code == ';' ? ORDER : WRONG;
                default: return code == ';' ? ORDER : WRONG;
            }
        }

        private static int expectedAfterLetter(int code) {
            switch (code) {
                case 'g': return FIRST_DIGIT;
                case 'p': case 'e': return DIGIT;
                case 'x': case 'w': case 'c': case 't': return NUMBER;
                default: return WRONG;
            }
        }

        private static boolean isDigit(int code) {
            return code >= '0' && code <= '9';
        }

        boolean isEndOfOrder(int at) {
            return at >= length || codes[at] == ';';
        }

        int firstDigit(int from, int to) {
            return from + 1 < to ? codes[from + 1] - '0' : 0;
        }

        int lastNumber(int from, int to) {
            int number = 0;
            for (int i = from + 1; i < to; i++) {
                number = isDigit(codes[i]) ? number * 10 + codes[i] - '0' : 0;
            }
            return number;
        }
    }
}
