import java.nio.charset.StandardCharsets;
import java.util.Set;
import java.util.TreeSet;

/** What the tests share: answers that are due, and texts put on the tape. */
final class Due {
    private static int checks = 0;
    private static int wrong = 0;
    private static String sentence = "";
    private static final Set<Integer> quoted = new TreeSet<>();

    private Due() { }

    /** What follows tests this sentence of the document's Terms. */
    static void terms(String quote) {
        sentence = "";
        holds("the Terms say: " + quote, Doc.hasInTerms(quote));
        sentence = quote;
    }

    /** What follows tests this sentence of a promise. */
    static void promise(int number, String quote) {
        sentence = "";
        holds("promise " + number + " says: " + quote, Doc.hasInPromise(number, quote));
        sentence = number + ": " + quote;
        quoted.add(number);
    }

    /** Whether sentences of all promises have been tested by this program. */
    static void allPromises() {
        for (int number = 1; number <= 30; number++) {
            holds("a sentence of promise " + number, quoted.contains(number));
        }
    }

    static void is(String call, long want, long got) {
        checks++;
        if (got != want) {
            wrong++;
            System.out.println(call + " answered " + got + ", due is " + want + (sentence.isEmpty() ? "" : " by \"" + sentence + "\""));
        }
    }

    static void holds(String what, boolean so) {
        is(what, 1, so ? 1 : 0);
    }

    /** Ends the test's program: with exit code 1 if an answer was wrong. */
    static void finish() {
        System.out.println(checks + " answers, " + wrong + " wrong");
        if (wrong != 0 || checks == 0) {
            System.exit(1);
        }
    }

    static int word(byte[] bytes, int from) {
        int word = 0;
        for (int i = from; i < from + 4; i++) {
            word = word << 8 | (i < bytes.length ? bytes[i] & 255 : 0);
        }
        return word;
    }

    /** The tape is this text then. */
    static void tape(HandFast h, String text) {
        byte[] bytes = text.getBytes(StandardCharsets.ISO_8859_1);
        h.end(0);
        for (int at = 0; at < bytes.length; at += 20) {
            h.feed(word(bytes, at), word(bytes, at + 4), word(bytes, at + 8), word(bytes, at + 12), word(bytes, at + 16));
        }
        if (h.end(bytes.length) != bytes.length) {
            throw new IllegalStateException("the tape can't hold: " + text);
        }
    }

    static int isle(HandFast h, String text) {
        tape(h, text);
        return h.isle();
    }

    static int rule(HandFast h, String text) {
        tape(h, text);
        return h.rule();
    }

    /** A new object with an isle. */
    static HandFast of(String text) {
        HandFast h = new HandFast();
        if (isle(h, text) < 0) {
            throw new IllegalStateException("a fault in: " + text);
        }
        return h;
    }

    /** The answer for a fault. */
    static int fault(int place, int kind) {
        return -2 - (1 + 8 * place + kind);
    }

    static String repeat(String piece, int times) {
        return piece.repeat(times);
    }
}
