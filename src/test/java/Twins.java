import java.util.ArrayList;
import java.util.Arrays;
import java.util.List;
import java.util.function.Supplier;
import java.util.function.ToIntFunction;

/** Two rooms that the same calls have made: what is asked of one of them alone must never show. */
final class Twins {
    private Twins() {
    }

    /** An error is due, and nothing changes: neither what undo and the slots bring back, nor the text of the pad. */
    static void refused(String call, int due, Supplier<PauseLexicons> scene, ToIntFunction<PauseLexicons> asked) {
        Due.holds(call + ": an error is due", due <= -1 && due >= -5);
        changesNothing(call, due, scene, asked);
    }

    static void changesNothing(String call, int due, Supplier<PauseLexicons> scene,
            ToIntFunction<PauseLexicons> asked) {
        for (ToIntFunction<PauseLexicons> later : laterCalls()) {
            PauseLexicons room = scene.get();
            PauseLexicons twin = scene.get();
            Due.is(call, asked.applyAsInt(room), due);
            Due.is(call + ": what is answered later", later.applyAsInt(room), later.applyAsInt(twin));
            same(call + " changes nothing", room, twin);
        }
    }

    static void same(String name, PauseLexicons room, PauseLexicons twin) {
        Due.holds(name, everything(room).equals(everything(twin)));
    }

    private static List<ToIntFunction<PauseLexicons>> laterCalls() {
        List<ToIntFunction<PauseLexicons>> calls = new ArrayList<>();
        for (int undos = 0; undos <= 7; undos++) {
            int times = undos;
            calls.add(room -> undo(room, times));
        }
        calls.add(room -> room.restore(0));
        calls.add(room -> room.restore(1));
        calls.add(PauseLexicons::carryOut);
        return calls;
    }

    static int undo(PauseLexicons room, int times) {
        int answer = 0;
        for (int i = 0; i < times; i++) {
            answer = room.undo();
        }
        return answer;
    }

    /** All that a room tells, in some 190 calls: with those that made it, it is asked 512 times at most. */
    static List<Integer> everything(PauseLexicons room) {
        List<Integer> answers = new ArrayList<>();
        for (int guest = 0; guest < 10; guest++) {
            for (int what = 0; what <= 6; what++) {
                answers.add(room.of(guest, what));
            }
        }
        for (int table = 0; table < 3; table++) {
            for (int what = 0; what <= 5; what++) {
                answers.add(room.table(table, what));
            }
            for (int seconds : new int[] {3, 7, 11, 15}) {
                answers.add(room.wouldMean(table, seconds));
            }
        }
        for (int meaning = 1; meaning <= 11; meaning++) {
            answers.add(room.meaning(meaning, 0));
            answers.add(room.meaning(meaning, 1));
        }
        for (int rank = 0; rank < 10; rank++) {
            for (int what = 0; what <= 4; what++) {
                answers.add(room.end(rank, what));
            }
        }
        for (int what = 0; what <= 14; what++) {
            answers.add(room.count(what));
        }
        answers.add(room.usual());
        answers.add(room.fault());
        return answers;
    }

    /** Values outside of a range: just beside it, far away, and such that only lower bits lie in it. */
    static int[] outside(int low, int high) {
        int[] some = {low - 1, high + 1, Integer.MIN_VALUE, Integer.MAX_VALUE, low + 32, low + 256, low + 65536,
            low + (1 << 30), Integer.MIN_VALUE + low, -high - 1};
        return Arrays.stream(some).filter(v -> v < low || v > high).distinct().toArray();
    }
}
