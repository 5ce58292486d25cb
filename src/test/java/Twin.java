import java.util.List;
import java.util.function.BiConsumer;
import java.util.function.Consumer;
import java.util.function.ToIntFunction;

/** Two objects made alike, of which one gets a call more: whether that call changed anything. */
final class Twin {
    static final String ISLE = "isle 11 5;east 50;east 3;east 0;west 0;west 7;west 999;seems 0 0 9 8;seems 0 1 6 4;seems 1 0 7 9;"
        + "seems 1 1 2 3;seems 2 1 5 5;truly 0 0 2 8;truly 2 1 9 1;seems 2 2 1 20;seems 0 2 4 1;late 3;late 60";

    private Twin() { }

    /** Of everything something: rules, one in force, notes, x, images, acts of each kind, a tape. */
    static void rich(HandFast h) {
        Due.isle(h, ISLE);
        Due.rule(h, "stay likes - 3");
        Due.rule(h, "stay 1 if years < 2; stay best - 4");
        h.image(1);
        h.fair();
        h.note(0, 0, 1);
        h.seed(4711);
        h.force(1);
        h.image(3);
        h.hold();
        h.fair();
        h.part(0);
        h.join(0, 1);
        h.note(2, 1, -1);
        Due.tape(h, "stay 1 if year = 4711x");
    }

    /** The call answers what is due, and nothing happens. */
    static void refused(String call, int due, ToIntFunction<HandFast> ask, Consumer<HandFast> making) {
        List<BiConsumer<HandFast, StringBuilder>> tales = List.of(Twin::tellNow, Twin::tellRules, Twin::tellUndone, Twin::tellImages);
        for (BiConsumer<HandFast, StringBuilder> tale : tales) {
            HandFast plain = new HandFast();
            HandFast asked = new HandFast();
            making.accept(plain);
            making.accept(asked);
            Due.is(call, due, ask.applyAsInt(asked));
            Due.holds("nothing happens by " + call, told(plain, tale).equals(told(asked, tale)));
        }
    }

    /** Refused in the midst of much, where all that could be changed is there. */
    static void refused(String call, int due, ToIntFunction<HandFast> ask) {
        refused(call, due, ask, Twin::rich);
    }

    /** The call answers the same twice, and nothing happens. */
    static void asked(String call, ToIntFunction<HandFast> ask) {
        HandFast h = new HandFast();
        rich(h);
        int first = ask.applyAsInt(h);
        Due.is(call + " again", first, ask.applyAsInt(h));
        refused(call, first, ask);
    }

    private static String told(HandFast h, BiConsumer<HandFast, StringBuilder> tale) {
        StringBuilder s = new StringBuilder();
        tale.accept(h, s);
        return s.toString();
    }

    private static void tellNow(HandFast h, StringBuilder s) {
        for (int what = 0; what < 15; what++) s.append(' ').append(h.count(what));
        for (int i = 0; i < 4; i++) {
            for (int what = 0; what < 4; what++) {
                s.append(' ').append(h.east(i, what)).append(' ').append(h.west(i, what));
                for (int j = 0; j < 4; j++) s.append(' ').append(h.likes(i, j, what));
            }
        }
        tellNotes(h, s);
        s.append("\ntape ").append(h.count(4) < 6 ? h.rule() : h.isle());
    }

    private static void tellNotes(HandFast h, StringBuilder s) {
        s.append(" notes ").append(h.ruled(0)).append(' ').append(h.ruled(1));
        for (int what = 0; what < 3; what++) s.append(' ').append(h.boats(-1, what));
    }

    private static void tellRules(HandFast h, StringBuilder s) {
        for (int rule = -1; rule < 6; rule++) {
            s.append("\nforce ").append(h.force(rule));
            for (int i = 0; i < 4; i++) s.append(' ').append(h.lasts(i)).append(' ').append(h.ahead(i, 4, 0));
            s.append(' ').append(h.isles(3, 5, 40, 1));
        }
    }

    private static void tellUndone(HandFast h, StringBuilder s) {
        for (int i = 0; i <= 20; i++) {
            s.append("\nundo ").append(h.undo());
            tellBriefly(h, s);
        }
    }

    private static void tellImages(HandFast h, StringBuilder s) {
        for (int k = 0; k < 4; k++) {
            s.append("\nback ").append(h.back(k));
            tellBriefly(h, s);
            s.append(' ').append(h.count(5)).append(' ').append(h.count(13));
            tellNotes(h, s);
        }
    }

    private static void tellBriefly(HandFast h, StringBuilder s) {
        for (int what = 6; what < 12; what++) s.append(' ').append(h.count(what));
        for (int i = 0; i < 3; i++) {
            s.append(' ').append(h.east(i, 0)).append(' ').append(h.west(i, 0));
            for (int j = 0; j < 2; j++) s.append(' ').append(h.likes(i, j, 0));
        }
    }
}
