/** Promises 2 and 3. */
public final class TapeTest {
    private static void lengths() {
        HandFast h = new HandFast();
        for (int i = 1; i <= 20; i++) {
            Due.is("feed " + i, 20 * i, h.feed(i, i, i, i, i));
        }
        Due.is("feed at 400", -1, h.feed(0, 0, 0, 0, 0));
        Due.is("tape", 400, h.count(14));
        Due.is("end(401)", -1, h.end(401));
        Due.is("end(-1)", -1, h.end(-1));
        Due.is("tape", 400, h.count(14));
        Due.is("end(381)", 381, h.end(381));
        Due.is("feed at 381", -1, h.feed(0, 0, 0, 0, 0));
        Due.is("end(382)", -1, h.end(382));
        Due.is("tape", 381, h.count(14));
        Due.is("end(380)", 380, h.end(380));
        Due.is("feed at 380", 400, h.feed(0, 0, 0, 0, 0));
        Due.is("end(0)", 0, h.end(0));
        Due.is("end(0) again", 0, h.end(0));
        Due.is("end(1)", -1, h.end(1));
        Due.is("tape", 0, h.count(14));
    }

    private static void order() {
        HandFast h = new HandFast();
        // "isle 98 7;late 5;late 6" in two feeds, the first cut in the midst of a number
        h.feed(0x69736c65, 0x20393820, 0x373b6c61, 0x74652035, 0x3b000000);
        Due.is("end(17)", 17, h.end(17));
        Due.is("feed", 37, h.feed(0x6c617465, 0x20360000, 0, 0, 0));
        Due.is("end(23)", 23, h.end(23));
        Due.is("isle", 0, h.isle());
        Due.is("GIFT", 98, h.count(0));
        Due.is("STAY", 7, h.count(1));
        Due.is("late", 2, h.count(10));
        Due.is("tape is empty", 0, h.count(14));
    }

    private static void highBytes() {
        HandFast h = new HandFast();
        h.feed(0xff000000, 0, 0, 0, 0);
        Due.is("a byte 255 is no end", Due.fault(0, 0), h.isle());
        Due.is("the tape is empty behind the fault", 0, h.count(14));
        Due.tape(h, "isle 0 0");
        h.end(8);
        h.feed(0xffffffff, 0, 0, 0, 0);
        Due.is("nor behind a text", Due.fault(8, 0), h.isle());
        Due.is("the tape is empty behind this one, too", 0, h.count(14));
    }

    /** The TAPE of a text is empty behind it, with a FAULT, too; with 6 RULES alone it stays. */
    private static void behindTexts() {
        HandFast h = new HandFast();
        h.feed(0x69736c65, 0x20312032, 0, 0, 0);
        Due.is("isle with a fault", Due.fault(8, 0), h.isle());
        Due.is("feed behind it", 20, h.feed(0x73746179, 0x20310000, 0, 0, 0));
        Due.is("rule with a fault", Due.fault(6, 0), h.rule());
        Due.is("feed behind it", 20, h.feed(0x73746179, 0x20310000, 0, 0, 0));
        Due.is("end(6)", 6, h.end(6));
        Due.is("rule", 0, h.rule());
        Due.is("an empty tape is no rule", Due.fault(0, 0), h.rule());
        Due.is("nor an isle", Due.fault(0, 0), h.isle());
        for (int i = 1; i < 6; i++) {
            Due.is("rule " + i, i, Due.rule(h, "stay 1"));
        }
        Due.is("feed", 20, h.feed(0, 0, 0, 0, 0));
        Due.is("rule with 6", -1, h.rule());
        Due.is("the tape stays", 40, h.feed(0, 0, 0, 0, 0));
        Due.is("isle with a fault", Due.fault(0, 0), h.isle());
        Due.is("the tape is empty", 20, h.feed(0, 0, 0, 0, 0));
    }

    public static void main(String[] args) {
        lengths();
        order();
        highBytes();
        behindTexts();
        Due.finish();
    }
}
