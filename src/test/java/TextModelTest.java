import java.nio.charset.StandardCharsets;
import java.util.Random;

/** Random texts, mostly with faults, whose answers must be those of the model; all seeds are fixed. */
public final class TextModelTest {
    private static final int TEXTS = Integer.getInteger("texts", 60000);
    private static final String[] ISLE = {"isle", "isle 0 0", "east", "east 5", "west", "west 7", "seems", "seems 0 0 1 2", "truly",
        "truly 0 1 3 4", "late", "late 60", "late 61", ";", ";", ";", ";", " ", "0", "1", "20", "21", "99", "999", "00000", "100000", "x"};
    private static final String[] RULE = {"stay", "stay 1", "stay likes", " if ", " if 1=1", " and ", " or ", "not ", "not ", "[", "[", "]",
        "]", "1", "0", "99999", "100000", "side", "hands", "best", "<", "<=", "=", ">=", ">", "+", "-", "*", "/", "%", ";", ";", " ", "x",
        "+1", "+1", "+years*2", "1=1", "likes<purse", "1=1 or 2=2", "not[not[not["};

    private static String text(Random random, String[] pieces, String start, String filler) {
        StringBuilder s = new StringBuilder(random.nextInt(4) == 0 ? "" : start);
        for (int i = random.nextInt(3) == 0 ? random.nextInt(60) : 0; i > 0; i--) s.append(filler);
        for (int i = random.nextInt(12); i > 0; i--) s.append(pieces[random.nextInt(pieces.length)]);
        return s.length() > 400 ? s.substring(0, 400) : s.toString();
    }

    private static void compare(String text, boolean isle) {
        HandFast hand = new HandFast();
        Model model = new Model();
        byte[] bytes = text.getBytes(StandardCharsets.ISO_8859_1);
        Due.tape(hand, text);
        for (int at = 0; at < bytes.length; at += 20) {
            model.feed(Due.word(bytes, at), Due.word(bytes, at + 4), Due.word(bytes, at + 8), Due.word(bytes, at + 12),
                Due.word(bytes, at + 16));
        }
        model.end(bytes.length);
        Due.is(text, isle ? model.isle() : model.rule(), isle ? hand.isle() : hand.rule());
        Due.is("tape of " + text, model.count(14), hand.count(14));
    }

    public static void main(String[] args) {
        Random random = new Random(4711);
        String[] isleFillers = {";late 1", ";east 1", ";west 2", ";seems 0 0 1 1", " "};
        String[] ruleFillers = {"+1", ";stay 1", " and 1=1", " and not 1=2", "[", "not ", " or likes-1<2", "*2"};
        for (int i = 0; i < TEXTS; i++) {
            compare(text(random, ISLE, "isle 1 2", isleFillers[random.nextInt(isleFillers.length)]), true);
            String start = random.nextBoolean() ? "stay 1" : random.nextBoolean() ? "stay 1 if " : "stay 1 if 1=1";
            compare(text(random, RULE, start, ruleFillers[random.nextInt(ruleFillers.length)]), false);
        }
        Due.finish();
    }
}
