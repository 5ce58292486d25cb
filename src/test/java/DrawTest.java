/** Promises 26 and 27. From 0 the draws mod 100 are 0 68 88 17 98 27, from 5 they are 55 57 16 77. */
public final class DrawTest {
    private static void seeds() {
        HandFast h = new HandFast();
        Due.is("seed(7)", 0, h.seed(7));
        Due.is("seed(-1)", -1, h.seed(-1));
        Due.is("x", 7, h.count(13));
        Due.is("seed(MAX)", 7, h.seed(Integer.MAX_VALUE));
        Due.is("seed(0)", Integer.MAX_VALUE, h.seed(0));
        Due.is("seed(MIN)", -1, h.seed(Integer.MIN_VALUE));
        Due.is("x", 0, h.count(13));
    }

    private static void drawn(HandFast h, int m, int n, int p, int joined, int often) {
        String call = "isles(" + m + ", " + n + ", " + p + ", ";
        Due.is(call + "0)", joined, h.isles(m, n, p, 0));
        Due.is(call + "1)", often, h.isles(m, n, p, 1));
    }

    private static void isles() {
        HandFast true1 = Due.of("isle 0 0;east 0;west 0;seems 0 0 5 5");
        drawn(true1, 1, 1, 0, 1, 1);
        drawn(true1, 1, 1, 1, 0, 0);
        drawn(true1, 2, 1, 1, 1, 1);
        drawn(true1, 2, 1, 68, 1, 1);
        drawn(true1, 2, 1, 69, 0, 0);
        drawn(true1, 3, 2, 50, 3, 3);
        drawn(true1, 10, 30, 100, 0, 0);
        drawn(true1, 10, 30, 0, 10, 10);
        Due.is("x as it was", 0, true1.count(13));
        Due.is("nothing stays", 0, true1.count(6) + true1.count(7) + true1.count(10));
        HandFast fickle = Due.of("isle 0 20;east 0;west 0;seems 0 0 5 5");
        drawn(fickle, 1, 4, 0, 0, 2);
        drawn(fickle, 1, 3, 0, 1, 2);
        fickle.seed(5);
        drawn(fickle, 1, 4, 50, 1, 2);
        drawn(fickle, 2, 2, 50, 1, 2);
        Due.is("x as it was", 5, fickle.count(13));
        fickle.fair();
        drawn(fickle, 1, 1, 0, 0, 0);
        drawn(fickle, 1, 1, 100, 1, 0);
        Due.rule(fickle, "stay 1");
        fickle.force(0);
        drawn(fickle, 4, 9, 30, 4, 0);
        HandFast late = Due.of("isle 0 0;east 0;west 0;seems 0 0 5 5;late 0");
        drawn(late, 1, 1, 0, 0, 0);
        late.seed(5);
        late.hold();
        drawn(late, 1, 2, 50, 1, 1);
        drawn(late, 1, 2, 58, 0, 0);
    }

    private static void wrongInputs() {
        HandFast h = Due.of("isle 0 0;east 0;west 0;seems 0 0 5 5");
        int[][] odd = {{0, 1, 0, 0}, {11, 1, 0, 0}, {1, 0, 0, 0}, {1, 31, 0, 0}, {1, 1, -1, 0}, {1, 1, 101, 0}, {1, 1, 0, 2}, {1, 1, 0, -1}};
        for (int[] a : odd) {
            Due.is("isles " + java.util.Arrays.toString(a), -1, h.isles(a[0], a[1], a[2], a[3]));
        }
    }

    public static void main(String[] args) {
        seeds();
        isles();
        wrongInputs();
        Due.finish();
    }
}
