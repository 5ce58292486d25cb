import java.lang.reflect.Constructor;
import java.lang.reflect.Field;
import java.lang.reflect.Member;
import java.lang.reflect.Method;
import java.lang.reflect.Modifier;
import java.util.Arrays;
import java.util.Map;
import java.util.TreeMap;

/** The public face, promise 1, and what calls answer without an isle. */
public final class FaceTest {
    private static final Map<String, Integer> FACE = new TreeMap<>();

    static {
        String face = "feed 5 end 1 isle 0 rule 0 force 1 east 2 west 2 likes 3 fair 0 join 2 part 1 hold 0 undo 0 ahead 3 "
            + "lasts 1 settled 1 tries 3 liked 1 doors 2 keep 2 note 3 ruled 1 boats 2 look 2 seed 1 isles 4 count 1 image 1 back 1";
        String[] words = face.split(" ");
        for (int i = 0; i < words.length; i += 2) {
            FACE.put(words[i], Integer.parseInt(words[i + 1]));
        }
    }

    private static boolean isHidden(Member m) {
        return Modifier.isPrivate(m.getModifiers());
    }

    private static void face() {
        Due.holds("public final", Modifier.isPublic(HandFast.class.getModifiers()) && Modifier.isFinal(HandFast.class.getModifiers()));
        Map<String, Integer> found = new TreeMap<>();
        for (Method m : HandFast.class.getDeclaredMethods()) {
            if (isHidden(m)) {
                Due.holds("a private method called " + m.getName(), !FACE.containsKey(m.getName()));
            } else {
                found.put(m.getName(), m.getParameterCount());
                Due.holds(m.getName() + " is public", Modifier.isPublic(m.getModifiers()) && !Modifier.isStatic(m.getModifiers()));
                Due.holds(m.getName() + " is of int", m.getReturnType() == int.class
                    && Arrays.stream(m.getParameterTypes()).allMatch(t -> t == int.class));
            }
        }
        Due.holds("the methods are " + FACE + ", found " + found, found.equals(FACE));
        for (Field f : HandFast.class.getDeclaredFields()) {
            Due.holds("field " + f.getName(), isHidden(f) || f.getName().equals("NONE"));
        }
        for (Constructor<?> c : HandFast.class.getDeclaredConstructors()) {
            Due.holds("constructor", Modifier.isPublic(c.getModifiers()) && c.getParameterCount() == 0);
        }
        Due.terms("The constants: `NONE = -1`: None.");
        Due.is("NONE", -1, HandFast.NONE);
    }

    private static void newObject() {
        HandFast h = new HandFast();
        int[] counts = {0, 0, 0, 0, 0, -1, 0, 0, 0, 0, 0, 0, 0, 0, 0};
        for (int what = 0; what < counts.length; what++) {
            Due.is("new: count(" + what + ")", counts[what], h.count(what));
        }
        Due.is("new: count(15)", -1, h.count(15));
        Due.is("new: count(-1)", -1, h.count(-1));
        Due.is("new: force(0)", -2, h.force(0));
        Due.is("new: force(NONE)", -1, h.force(-1));
        Due.is("new: back(0)", -1, h.back(0));
    }

    private static void withoutIsle() {
        HandFast h = new HandFast();
        Due.is("east", -2, h.east(0, 0));
        Due.is("west", -2, h.west(0, 0));
        Due.is("likes", -1, h.likes(0, 0, 0));
        Due.is("fair", -1, h.fair());
        Due.is("join", -1, h.join(0, 0));
        Due.is("part", -1, h.part(0));
        Due.is("hold", -1, h.hold());
        Due.is("undo", -1, h.undo());
        Due.is("ahead", -2, h.ahead(0, 0, 0));
        Due.is("ahead west", -2, h.ahead(0, 0, 3));
        Due.is("lasts", -1, h.lasts(0));
        Due.is("settled", -3, h.settled(0));
        Due.is("tries", -2, h.tries(0, 1, 0));
        Due.is("liked", -1, h.liked(0));
        Due.is("doors", -1, h.doors(0, 0));
        Due.is("keep", -1, h.keep(0, 1));
        Due.is("note", -2, h.note(0, 0, -1));
        Due.is("note NONE", 0, h.note(-1, 0, 0));
        Due.is("ruled", -3, h.ruled(0));
        Due.is("boats", -3, h.boats(-1, 0));
        Due.is("look", -1, h.look(0, 0));
        Due.is("isles", -1, h.isles(1, 1, 0, 0));
        Due.is("image", 0, h.image(0));
        Due.is("back", 0, h.back(0));
    }

    /** Every method with every mix of odd arguments, in three states: none may throw. */
    private static void nothingThrows() throws Exception {
        int[] odd = {Integer.MIN_VALUE, -2, -1, 0, 1, 3, 4, 7, 30, 31, 60, 61, 100, Integer.MAX_VALUE};
        String full = "isle 9 3;east 9;east 8;east 7;east 6;west 5;west 4;west 3;west 2;seems 0 0 5 5;seems 1 1 4 4;seems 3 3 1 9";
        for (String text : new String[] {"", "isle 1 1", full}) {
            for (Method m : HandFast.class.getDeclaredMethods()) {
                if (isHidden(m)) continue;
                HandFast h = text.isEmpty() ? new HandFast() : Due.of(text);
                h.fair();
                int mixes = (int) Math.pow(odd.length, Math.min(3, m.getParameterCount()));
                for (int mix = 0; mix < mixes; mix++) {
                    Object[] args = new Object[m.getParameterCount()];
                    for (int i = 0, rest = mix; i < args.length; i++, rest /= odd.length) args[i] = odd[rest % odd.length];
                    m.invoke(h, args);
                }
                Due.holds(m.getName() + " goes on", h.count(6) >= 0);
            }
        }
    }

    public static void main(String[] args) throws Exception {
        face();
        newObject();
        withoutIsle();
        nothingThrows();
        Due.finish();
    }
}
