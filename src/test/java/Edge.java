import java.nio.file.Files;
import java.nio.file.Path;
import java.util.function.IntUnaryOperator;
import java.util.function.ToIntFunction;

/** What the tests of the document's edges share: one sentence of the document is tested at a time. */
final class Edge {
    static final int MIN = Integer.MIN_VALUE;
    static final int MAX = Integer.MAX_VALUE;
    static final int NONE = -1;

    private static final Path DOCUMENT = Path.of("../shared/DOC.md");
    private static final String WORDS = document();

    private static String sentence = "";
    private static int sentences = 0;
    private static int wrong = 0;

    private Edge() {
    }

    private static String document() {
        try {
            return Files.exists(DOCUMENT) ? oneLine(Files.readString(DOCUMENT)) : "";
        } catch (java.io.IOException e) {
            return "";
        }
    }

    private static String oneLine(String text) {
        return text.replaceAll("\\s+", " ");
    }

    /** The sentence that the checks from here on are of; it must stand in the document as it is. */
    static void says(String words) {
        sentence = words;
        sentences++;
        if (!WORDS.isEmpty() && !WORDS.contains(oneLine(words))) {
            fail("the document does not say so");
        }
    }

    private static void fail(String what) {
        wrong++;
        System.out.println("'" + sentence + "': " + what);
    }

    static void due(String call, int got, int want) {
        if (got != want) {
            fail(call + " answered " + got + ", due is " + want);
        }
    }

    static void due(String call, boolean got, boolean want) {
        due(call, got ? 1 : 0, want ? 1 : 0);
    }

    static void due(String call, String got, String want) {
        if (!got.equals(want)) {
            fail(call + " left " + got + ", due is " + want);
        }
    }

    /** A call is refused, and nothing happens by it. */
    static void refused(String call, GuessFerry x, int want, ToIntFunction<GuessFerry> answer) {
        String ahead = state(x);
        due(call, answer.applyAsInt(x), want);
        due(call, state(x), ahead);
    }

    /** NONE is due for all numbers but those from the least to the most, and for none of these. */
    static void only(int least, int most, String call, IntUnaryOperator answer) {
        int[] others = {MIN, least - 1000, least - 1, most + 1, most + 2, most + 64, most + 256, MAX};
        for (int one : others) {
            due(call + " by " + one, answer.applyAsInt(one), NONE);
        }
        due(call + " by " + least + " is NONE", answer.applyAsInt(least) == NONE, false);
        due(call + " by " + most + " is NONE", answer.applyAsInt(most) == NONE, false);
    }

    static void end(String test) {
        System.out.println(wrong == 0 ? test + ": " + sentences + " sentences hold" : wrong + " answers are not as due");
        if (wrong != 0) {
            System.exit(1);
        }
    }

    static void feed(GuessFerry x, String text) {
        String padded = text + " ".repeat((20 - text.length() % 20) % 20);
        for (int i = 0; i < padded.length(); i += 20) {
            int[] words = new int[5];
            for (int j = 0; j < 20; j++) {
                words[j / 4] = words[j / 4] << 8 | padded.charAt(i + j);
            }
            x.feed(words[0], words[1], words[2], words[3], words[4]);
        }
        x.back(padded.length() - text.length());
    }

    static GuessFerry told(String text) {
        GuessFerry x = new GuessFerry();
        feed(x, text);
        due("read() of " + text, x.read(), 0);
        return x;
    }

    /** The document's words on LOT, in numbers that do not wrap by themselves. */
    static int lot(int n, int seed, int which) {
        long h = seed;
        for (long it : new long[] {173, which}) {
            h = (h ^ it) * 1103515245L + 12345L & 0xffffffffL;
            h ^= h >> 15;
        }
        return (int) ((h >> 1) % n);
    }

    /** All that goes on, and what is TOLD, held and on the tape, as one text. */
    static String state(GuessFerry x) {
        StringBuilder all = new StringBuilder();
        for (int what = 0; what <= 18; what++) {
            all.append(x.count(what)).append(' ');
        }
        int waves = x.count(0);
        for (int wave = 0; wave < waves; wave++) {
            for (int what = 0; what <= 5; what++) {
                all.append(x.wave(wave, what)).append(' ');
            }
        }
        int parties = x.count(1);
        for (int party = 0; party < parties; party++) {
            for (int what = 0; what <= 5; what++) {
                all.append(x.party(party, what)).append(' ');
            }
        }
        return all.toString();
    }

    /** The numbers of THINGS, one for each WAVE, as a GUESS. */
    static int guess(int... things) {
        int number = 0;
        for (int wave = things.length - 1; wave >= 0; wave--) {
            number = number * 6 + things[wave];
        }
        return number;
    }
}
