import java.util.ArrayDeque;
import java.util.ArrayList;
import java.util.Comparator;
import java.util.Deque;
import java.util.List;
import java.util.TreeMap;
import java.util.function.ToIntFunction;
import java.util.regex.Matcher;
import java.util.regex.Pattern;
import java.util.stream.IntStream;
import java.util.stream.Stream;

/** Long runs of calls, right and wrong ones, against a second room that is told another way: lists, streams, regex. */
public final class ModelTest {
    private static final int RUNS = 4000, CALLS = 512, LONGEST_STEP = 90, CALLS_OF_EVERYTHING = 330, KINDS_OF_ONE_CALL = 27;
    private static final int NO_SUCH = -1, BAD_VALUE = -2, BAD_TEXT = -3, TOO_MANY = -4, NOT_POSSIBLE = -5, NONE = -6;

    public static void main(String[] args) {
        for (int run = 0; run < RUNS; run++) {
            new Run(run).play();
        }
        Due.close();
    }

    /** A guest of the model. */
    private record Guest(int number, int table, int rank, int faults, int coughs, int broken, int lent) {
        Guest at(int newTable) {
            return new Guest(number, newTable, rank, faults, coughs, broken, lent);
        }

        Guest blamed(int more) {
            return new Guest(number, table, rank, faults + more, coughs, broken, lent);
        }

        Guest brokeOne() {
            return new Guest(number, table, rank, faults, coughs, broken + 1, lent);
        }

        Guest lentOne() {
            return new Guest(number, table, rank, faults, coughs - 1, broken, lent + 1);
        }
    }

    private record End(int how, int table, int seconds, int meaning, int who) {
    }

    /** A state of the model; a change is made on a copy. Meanings and host are found anew each time. */
    private static final class State {
        int time = 0;
        List<Integer> settings = new ArrayList<>(List.of(3, 4, 2, 1));
        List<Guest> guests = new ArrayList<>();
        TreeMap<Integer, Integer> begun = new TreeMap<>(); // table to the time at which its pause began
        List<End> ends = new ArrayList<>(); // all of them, the oldest first

        State copy() {
            State copy = new State();
            copy.time = time;
            copy.settings = new ArrayList<>(settings);
            copy.guests = new ArrayList<>(guests);
            copy.begun = new TreeMap<>(begun);
            copy.ends = new ArrayList<>(ends);
            return copy;
        }

        boolean known(int guest) {
            return guest >= 0 && guest < guests.size();
        }

        List<Guest> company(int table) {
            return guests.stream().filter(g -> g.table() == table).toList();
        }

        static int kind(List<Guest> company) {
            if (company.size() < 3) {
                return company.size();
            }
            return company.stream().map(Guest::rank).distinct().count() == 1 ? 3 : 4;
        }

        int host(int table) {
            return company(table).stream()
                .min(Comparator.comparingInt((Guest g) -> -g.rank()).thenComparingInt(Guest::number))
                .map(Guest::number).orElse(NONE);
        }

        int lender(int guest) {
            return company(guests.get(guest).table()).stream().filter(g -> g.number() != guest && g.coughs() > 0)
                .min(Comparator.comparingInt(Guest::rank).thenComparingInt(Guest::number))
                .map(Guest::number).orElse(NONE);
        }

        int mean(List<Guest> company, int seconds) {
            int tooShort = settings.get(0);
            if (company.isEmpty() || seconds < tooShort) {
                return 0;
            }
            int shade = Math.min(3, (seconds - tooShort) / settings.get(1));
            String row = List.of("1122", "3455", "6778", "99ab").get(kind(company) - 1);
            return Character.digit(row.charAt(shade), 16);
        }

        int length(int table) {
            return time - begun.get(table);
        }

        int turnsIn(int table) {
            int now = mean(company(table), length(table));
            return IntStream.range(1, 200).filter(s -> mean(company(table), length(table) + s) != now)
                .findFirst().orElse(NONE);
        }

        void empty(int table) {
            if (company(table).isEmpty()) {
                begun.remove(table);
            }
        }

        void broken(int how, int guest) {
            int table = guests.get(guest).table();
            ends.add(new End(how, table, length(table), 0, guest));
            begun.remove(table);
            guests.set(guest, guests.get(guest).brokeOne());
        }

        int breakError(int guest) {
            if (!known(guest)) {
                return NO_SUCH;
            }
            return begun.containsKey(guests.get(guest).table()) ? 0 : NOT_POSSIBLE;
        }

        int often(int meaning) {
            return (int) ends.stream().filter(e -> e.how() == 0 && e.meaning() == meaning).count();
        }

        int longest(int meaning) {
            return ends.stream().filter(e -> e.how() == 0 && e.meaning() == meaning).mapToInt(End::seconds).max().orElse(0);
        }

        int usual() {
            return IntStream.rangeClosed(1, 11).filter(m -> often(m) > 0).boxed()
                .min(Comparator.comparingInt(m -> -often(m))).orElse(NONE);
        }

        int set(Stream<Guest> some) {
            return some.mapToInt(g -> 1 << g.number()).sum();
        }
    }

    private static boolean table(int table) {
        return table >= 0 && table <= 2;
    }

    private static boolean within(int value, int low, int high) {
        return value >= low && value <= high;
    }

    /** The model's room: each change answers by a function on a copy, which is taken if it is no error. */
    private static final class Model {
        private static final Pattern TEXT = Pattern.compile("(ORDER)(;(ORDER))*"
            .replace("ORDER", "g[0-9]\\.[0-9]|[pe][0-9]|[xwct](0|[1-9][0-9]?)"));

        State now = new State();
        final Deque<State> history = new ArrayDeque<>();
        final State[] slots = new State[2];
        String pad = "";

        int change(ToIntFunction<State> order) {
            State copy = now.copy();
            int answer = order.applyAsInt(copy);
            if (answer >= 0 || answer == NONE) {
                record();
                now = copy;
            }
            return answer;
        }

        void record() {
            history.addLast(now);
            if (history.size() > 6) {
                history.removeFirst();
            }
        }

        static int set(State s, int setting, int value) {
            if (!within(setting, 0, 3) || !within(value, 1, setting < 2 ? 20 : 9)) {
                return BAD_VALUE;
            }
            return s.settings.set(setting, value);
        }

        static int guest(State s, int table, int rank) {
            if (!table(table)) {
                return NO_SUCH;
            }
            if (!within(rank, 1, 9)) {
                return BAD_VALUE;
            }
            if (s.guests.size() == 10) {
                return TOO_MANY;
            }
            s.guests.add(new Guest(s.guests.size(), table, rank, 0, s.settings.get(2), 0, 0));
            return s.guests.size() - 1;
        }

        static int leave(State s, int guest) {
            if (!s.known(guest)) {
                return NO_SUCH;
            }
            int table = s.guests.get(guest).table();
            if (table == NONE) {
                return NOT_POSSIBLE;
            }
            s.guests.set(guest, s.guests.get(guest).at(NONE));
            s.empty(table);
            return s.company(table).size();
        }

        static int move(State s, int guest, int table) {
            if (!s.known(guest) || !table(table)) {
                return NO_SUCH;
            }
            int was = s.guests.get(guest).table();
            if (was == NONE || was == table) {
                return NOT_POSSIBLE;
            }
            s.guests.set(guest, s.guests.get(guest).at(table));
            s.empty(was);
            return was;
        }

        static int pause(State s, int table) {
            if (!table(table)) {
                return NO_SUCH;
            }
            if (s.company(table).isEmpty() || s.begun.putIfAbsent(table, s.time) != null) {
                return NOT_POSSIBLE;
            }
            return State.kind(s.company(table));
        }

        static int close(State s, int table) {
            if (!table(table)) {
                return NO_SUCH;
            }
            if (!s.begun.containsKey(table)) {
                return NOT_POSSIBLE;
            }
            int meant = s.mean(s.company(table), s.length(table));
            s.ends.add(new End(0, table, s.length(table), meant, NONE));
            s.begun.remove(table);
            return meant;
        }

        static int word(State s, int guest) {
            int error = s.breakError(guest);
            if (error != 0) {
                return error;
            }
            int host = s.host(s.guests.get(guest).table());
            s.broken(1, guest);
            s.guests.set(guest, s.guests.get(guest).blamed(s.settings.get(3)));
            if (host != guest) {
                s.guests.set(host, s.guests.get(host).blamed(1));
            }
            return s.guests.get(guest).faults();
        }

        static int cough(State s, int guest) {
            int error = s.breakError(guest);
            if (error != 0) {
                return error;
            }
            int lender = s.lender(guest);
            s.broken(2, guest);
            if (lender == NONE) {
                s.guests.set(guest, s.guests.get(guest).blamed(s.settings.get(3)));
            } else {
                s.guests.set(lender, s.guests.get(lender).lentOne());
            }
            return lender;
        }

        static int pass(State s, int seconds) {
            if (!within(seconds, 1, 99)) {
                return BAD_VALUE;
            }
            if (s.time + seconds > 9999) {
                return NOT_POSSIBLE;
            }
            s.time += seconds;
            return (int) s.begun.keySet().stream().filter(t -> s.mean(s.company(t), s.length(t)) > 0).count();
        }

        int of(int guest, int what) {
            if (!now.known(guest)) {
                return NO_SUCH;
            }
            Guest g = now.guests.get(guest);
            int host = g.table() != NONE && now.host(g.table()) == guest ? 1 : 0;
            int[] all = {g.table(), g.rank(), g.faults(), g.coughs(), host, g.broken(), g.lent()};
            return within(what, 0, 6) ? all[what] : BAD_VALUE;
        }

        int ofTable(int table, int what) {
            if (!table(table)) {
                return NO_SUCH;
            }
            List<Guest> company = now.company(table);
            boolean pause = now.begun.containsKey(table);
            int[] all = {now.set(company.stream()), now.host(table), State.kind(company),
                pause ? now.length(table) : NONE, pause ? now.mean(company, now.length(table)) : NONE,
                (int) now.ends.stream().filter(e -> e.table() == table).count()};
            return within(what, 0, 5) ? all[what] : BAD_VALUE;
        }

        int meaning(int meaning, int what) {
            if (!within(meaning, 1, 11)) {
                return NO_SUCH;
            }
            return what == 0 ? now.often(meaning) : what == 1 ? now.longest(meaning) : BAD_VALUE;
        }

        int end(int rank, int what) {
            if (rank < 0 || rank >= Math.min(10, now.ends.size())) {
                return NO_SUCH;
            }
            End e = now.ends.get(now.ends.size() - 1 - rank);
            int[] all = {e.how(), e.table(), e.seconds(), e.meaning(), e.who()};
            return within(what, 0, 4) ? all[what] : BAD_VALUE;
        }

        int count(int what) {
            if (within(what, 9, 12)) {
                return now.settings.get(what - 9);
            }
            switch (what) {
                case 0: return now.time;
                case 1: return now.set(now.guests.stream().filter(g -> g.table() != NONE));
                case 2: return now.begun.size();
                case 3: case 4: case 5: return (int) now.ends.stream().filter(e -> e.how() == what - 3).count();
                case 6: return now.guests.stream().mapToInt(Guest::faults).sum();
                case 7: return IntStream.rangeClosed(1, 11).filter(m -> now.often(m) > 0).map(m -> 1 << m).sum();
                case 8: return now.guests.stream().filter(g -> g.table() != NONE).mapToInt(Guest::coughs).sum();
                case 13: return pad.length();
                case 14: return history.size();
                default: return BAD_VALUE;
            }
        }

        int wouldMean(int table, int seconds) {
            if (!table(table)) {
                return NO_SUCH;
            }
            return within(seconds, 0, 999) ? now.mean(now.company(table), seconds) : BAD_VALUE;
        }

        int turnsIn(int table) {
            if (!table(table)) {
                return NO_SUCH;
            }
            return now.begun.containsKey(table) ? now.turnsIn(table) : NOT_POSSIBLE;
        }

        int lender(int guest) {
            if (!now.known(guest)) {
                return NO_SUCH;
            }
            return now.guests.get(guest).table() == NONE ? NOT_POSSIBLE : now.lender(guest);
        }

        int without(int guest) {
            int error = now.breakError(guest);
            if (error != 0) {
                return error;
            }
            int table = now.guests.get(guest).table();
            List<Guest> others = now.company(table).stream().filter(g -> g.number() != guest).toList();
            return now.mean(others, now.length(table));
        }

        int put(long characters) {
            StringBuilder bytes = new StringBuilder();
            for (int i = 7; i >= 0; i--) {
                bytes.append((char) (characters >>> 8 * i & 255));
            }
            String more = bytes.toString().replaceFirst("^\0+", "");
            if (!more.matches("[!-~]{1,8}")) {
                return BAD_VALUE;
            }
            if (pad.length() + more.length() > 80) {
                return TOO_MANY;
            }
            pad += more;
            return pad.length();
        }

        int wipe() {
            int had = pad.length();
            pad = "";
            return had;
        }

        int fault() {
            if (TEXT.matcher(pad).matches()) {
                return NONE;
            }
            // A piece that is no text may still become one if the matcher asked for more.
            for (int length = 1; length <= pad.length(); length++) {
                Matcher matcher = TEXT.matcher(pad.substring(0, length));
                if (!matcher.matches() && !matcher.hitEnd()) {
                    return length - 1;
                }
            }
            return pad.length();
        }

        int carryOut() {
            if (fault() != NONE) {
                return BAD_TEXT;
            }
            record();
            String[] orders = pad.split(";");
            pad = "";
            int done = 0;
            for (String order : orders) {
                State copy = now.copy();
                int answer = obey(copy, order.charAt(0), order.substring(1).split("\\."));
                if (answer < 0 && answer != NONE) {
                    break;
                }
                now = copy;
                done++;
            }
            return done;
        }

        static int obey(State s, char letter, String[] numbers) {
            int first = Integer.parseInt(numbers[0]);
            switch (letter) {
                case 'g': return guest(s, first, Integer.parseInt(numbers[1]));
                case 'x': return leave(s, first);
                case 'p': return pause(s, first);
                case 'e': return close(s, first);
                case 'w': return word(s, first);
                case 'c': return cough(s, first);
                default: return pass(s, first);
            }
        }

        int undo() {
            if (history.isEmpty()) {
                return NOT_POSSIBLE;
            }
            now = history.removeLast();
            return history.size();
        }

        int save(int slot) {
            if (!within(slot, 0, 1)) {
                return BAD_VALUE;
            }
            slots[slot] = now;
            return now.guests.size();
        }

        int restore(int slot) {
            if (!within(slot, 0, 1)) {
                return BAD_VALUE;
            }
            if (slots[slot] == null) {
                return NOT_POSSIBLE;
            }
            record();
            now = slots[slot];
            return now.guests.size();
        }
    }

    /** One run: the same calls on both rooms, drawn from a number that is the same each time. */
    private static final class Run {
        private final int number;
        private final int longPasses;
        private final PauseLexicons room = new PauseLexicons();
        private final Model model = new Model();
        private long drawn;
        private int calls = 0;

        Run(int number) {
            this.number = number;
            this.longPasses = number % 4;
            drawn = number * 7919L + 17;
        }

        int draw(int below) {
            drawn = drawn * 6364136223846793005L + 1442695040888963407L;
            return (int) ((drawn >>> 33) % below);
        }

        /** Mostly 0 to below - 1, now and then just beside it or far away. */
        int near(int below) {
            int kind = draw(60);
            int[] odd = {-1, below, Integer.MIN_VALUE, Integer.MAX_VALUE, NONE, below + 1};
            return kind < odd.length ? odd[kind] : draw(below);
        }

        int someGuest() {
            int came = model.now.guests.size();
            return draw(12) == 0 ? near(11) : draw(Math.max(1, came));
        }

        void play() {
            // Only then the end of time comes near enough.
            for (int i = 0; longPasses == 0 && i < 98; i++) {
                same("pass", room.pass(99), model.change(s -> Model.pass(s, 99)));
            }
            int last = number % 3 == 0 ? CALLS - LONGEST_STEP : draw(CALLS - CALLS_OF_EVERYTHING - LONGEST_STEP);
            while (calls < last) {
                if (draw(3) == 0) {
                    ask(draw(13));
                } else {
                    change(draw(32));
                }
            }
            if (number % 3 != 0) {
                everything();
                Due.holds("run " + number + " asks for no call that is not promised", calls <= CALLS);
                return;
            }
            while (calls < CALLS) {
                oneMore();
            }
            Due.is("run " + number + " goes on to the last call that is promised", calls, CALLS);
        }

        void oneMore() {
            if (draw(3) == 0) {
                ask(draw(13));
            } else {
                change(draw(KINDS_OF_ONE_CALL));
            }
        }

        void same(String call, long got, long want) {
            calls++;
            Due.is("run " + number + ": " + call, got, want);
        }

        void change(int kind) {
            int a = near(3);
            int guest = someGuest();
            switch (kind) {
                case 0: case 1:
                    int setting = near(4);
                    int value = draw(8) == 0 ? near(22) : 1 + draw(6);
                    same("set", room.set(setting, value), model.change(s -> Model.set(s, setting, value)));
                    break;
                case 2: case 3: case 4:
                    int rank = draw(4) == 0 ? near(11) : 4 + draw(2);
                    same("guest", room.guest(a, rank), model.change(s -> Model.guest(s, a, rank)));
                    break;
                case 5:
                    if (draw(3) == 0) {
                        same("leave", room.leave(guest), model.change(s -> Model.leave(s, guest)));
                    }
                    break;
                case 6: case 7:
                    same("move", room.move(guest, a), model.change(s -> Model.move(s, guest, a)));
                    break;
                case 8: case 9: case 10: case 11: case 12:
                    same("pause", room.pause(a), model.change(s -> Model.pause(s, a)));
                    break;
                case 13: case 14:
                    same("close", room.close(a), model.change(s -> Model.close(s, a)));
                    break;
                case 15:
                    same("word", room.word(guest), model.change(s -> Model.word(s, guest)));
                    break;
                case 16: case 17:
                    same("cough", room.cough(guest), model.change(s -> Model.cough(s, guest)));
                    break;
                case 18: case 19: case 20: case 21:
                    int seconds = longPasses == 0 ? 99 - draw(3) : draw(10) == 0 ? near(101) : 1 + draw(7);
                    same("pass", room.pass(seconds), model.change(s -> Model.pass(s, seconds)));
                    break;
                case 22:
                    same("undo", room.undo(), model.undo());
                    break;
                case 23:
                    int slot = near(2);
                    same("save", room.save(slot), model.save(slot));
                    break;
                case 24:
                    int saved = near(2);
                    same("restore", room.restore(saved), model.restore(saved));
                    break;
                case 25:
                    same("wipe", room.wipe(), model.wipe());
                    break;
                case 26:
                    long characters = drawn * draw(1000) >>> 8 * draw(9);
                    same("put", room.put(characters), model.put(characters));
                    break;
                case 27: case 28:
                    put(text());
                    break;
                default:
                    same("carryOut", room.carryOut(), model.carryOut());
                    break;
            }
        }

        String text() {
            StringBuilder text = new StringBuilder();
            int orders = 1 + draw(14);
            for (int i = 0; i < orders; i++) {
                char letter = "gppeeccwttx".charAt(draw(11));
                text.append(text.length() == 0 ? "" : ";").append(letter);
                if (letter == 'g') {
                    text.append(draw(3)).append('.').append(4 + draw(3));
                } else {
                    text.append(letter == 't' ? 1 + draw(12) : draw(letter == 'p' || letter == 'e' ? 3 : 5));
                }
            }
            if (draw(4) == 0) {
                text.setCharAt(draw(text.length()), "0123456789.;gxpewct!~".charAt(draw(21)));
            }
            return text.toString();
        }

        void put(String text) {
            same("wipe", room.wipe(), model.wipe());
            for (int from = 0; from < text.length(); ) {
                int to = Math.min(text.length(), from + 1 + draw(8));
                long characters = Due.packed(text.substring(from, to));
                same("put", room.put(characters), model.put(characters));
                from = to;
            }
            same("fault of " + model.pad, room.fault(), model.fault());
            if (draw(3) > 0) {
                same("carryOut", room.carryOut(), model.carryOut());
            }
        }

        void ask(int kind) {
            int a = near(3);
            int guest = someGuest();
            int what = near(7);
            switch (kind) {
                case 0:
                    same("of", room.of(guest, what), model.of(guest, what));
                    break;
                case 1:
                    same("table", room.table(a, what), model.ofTable(a, what));
                    break;
                case 2:
                    int meaning = near(13);
                    same("meaning", room.meaning(meaning, a), model.meaning(meaning, a));
                    break;
                case 3:
                    int rank = near(11);
                    same("end", room.end(rank, what), model.end(rank, what));
                    break;
                case 4:
                    int number = near(15);
                    same("count", room.count(number), model.count(number));
                    break;
                case 5: case 6:
                    int seconds = draw(5) == 0 ? near(1001) : draw(30);
                    same("wouldMean", room.wouldMean(a, seconds), model.wouldMean(a, seconds));
                    break;
                case 7: case 8:
                    same("turnsIn", room.turnsIn(a), model.turnsIn(a));
                    break;
                case 9:
                    same("lender", room.lender(guest), model.lender(guest));
                    break;
                case 10:
                    same("without", room.without(guest), model.without(guest));
                    break;
                case 11:
                    same("fault", room.fault(), model.fault());
                    break;
                default:
                    same("usual", room.usual(), model.now.usual());
                    break;
            }
        }

        void everything() {
            for (int guest = -1; guest <= 10; guest++) {
                for (int what = -1; what <= 7; what++) {
                    same("of(" + guest + ", " + what + ")", room.of(guest, what), model.of(guest, what));
                }
                same("lender(" + guest + ")", room.lender(guest), model.lender(guest));
                same("without(" + guest + ")", room.without(guest), model.without(guest));
            }
            for (int table = -1; table <= 3; table++) {
                for (int what = -1; what <= 6; what++) {
                    same("table(" + table + ", " + what + ")", room.table(table, what), model.ofTable(table, what));
                }
                same("turnsIn(" + table + ")", room.turnsIn(table), model.turnsIn(table));
            }
            for (int meaning = 0; meaning <= 12; meaning++) {
                for (int what = -1; what <= 2; what++) {
                    same("meaning", room.meaning(meaning, what), model.meaning(meaning, what));
                }
            }
            for (int rank = -1; rank <= 10; rank++) {
                for (int what = -1; what <= 5; what++) {
                    same("end(" + rank + ", " + what + ")", room.end(rank, what), model.end(rank, what));
                }
            }
            for (int what = -1; what <= 15; what++) {
                same("count(" + what + ")", room.count(what), model.count(what));
            }
            same("fault", room.fault(), model.fault());
            same("usual", room.usual(), model.now.usual());
        }
    }
}
