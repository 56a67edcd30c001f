/** Counts the answers that are not as due, for the tests' main methods. */
final class Due {
    private static final int SHOWN = 40;
    private static int checked = 0;
    private static int wrong = 0;
    private static String topic = "";

    private Due() {
    }

    /** What is told before each answer that is not as due, from now on. */
    static void about(String newTopic) {
        topic = newTopic;
    }

    static int checked() {
        return checked;
    }

    static void is(String call, long got, long want) {
        checked++;
        if (got != want) {
            wrong++;
            if (wrong <= SHOWN) {
                System.out.println(topic + call + " answered " + got + ", due is " + want);
            }
        }
    }

    static void holds(String rule, boolean kept) {
        is(rule, kept ? 1 : 0, 1);
    }

    /** Ends the program, with 1 if anything was wrong or nothing was looked at. */
    static void close() {
        System.out.println(checked + " answers, " + wrong + " of them not as due");
        System.exit(wrong == 0 && checked > 0 ? 0 : 1);
    }

    /** Puts a text on the pad, and answers what the last put answered. */
    static int write(PauseLexicons room, String text) {
        int answer = 0;
        for (int from = 0; from < text.length(); from += 8) {
            answer = room.put(packed(text.substring(from, Math.min(from + 8, text.length()))));
        }
        return answer;
    }

    static long packed(String upToEight) {
        long characters = 0;
        for (int i = 0; i < upToEight.length(); i++) {
            characters = characters << 8 | upToEight.charAt(i);
        }
        return characters;
    }
}
