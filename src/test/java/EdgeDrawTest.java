/** The boundary cases of promise 23: draw. */
public final class EdgeDrawTest {
    private static final int[] SEEDS = {0, 1, -1, 123456789, Edges.MAX, Edges.MIN};

    public static void main(String[] args) {
        Edges.run(EdgeDrawTest.class, 23, 23);
    }

    /** Looks at every place of an order, and at the places just outside it. */
    private static void order(Check check, int seed, int... due) {
        GleePrize x = new GleePrize();
        int n = due.length;
        for (int i = 0; i < n; i++) {
            check.due("draw(" + n + ", " + seed + ", " + i + ")", x.draw(n, seed, i), due[i]);
        }
        check.due("draw(" + n + ", " + seed + ", -1)", x.draw(n, seed, -1), -1);
        check.due("draw(" + n + ", " + seed + ", " + n + ")", x.draw(n, seed, n), -1);
    }

    @Edge(promise = 23, of = "the shortest order, from any seed")
    static void shortest(Check check) {
        for (int seed : SEEDS) {
            order(check, seed, 0);
        }
    }

    @Edge(promise = 23, of = "an order of two: both ways are drawn")
    static void ofTwo(Check check) {
        order(check, 0, 1, 0);
        order(check, 1, 1, 0);
        order(check, 2, 0, 1);
    }

    @Edge(promise = 23, of = "the longest order")
    static void longest(Check check) {
        order(check, 0, 2, 3, 9, 8, 10, 11, 1, 6, 4, 5, 7, 0);
        order(check, 1, 5, 8, 3, 0, 10, 9, 4, 7, 11, 6, 1, 2);
    }

    @Edge(promise = 23, of = "one short of the longest order")
    static void ofEleven(Check check) {
        order(check, 0, 6, 1, 9, 5, 3, 7, 2, 10, 0, 8, 4);
    }

    @Edge(promise = 23, of = "a seed that wraps around: a large one and the largest")
    static void seedWrapsAbove(Check check) {
        order(check, 123456789, 11, 5, 7, 10, 6, 3, 1, 4, 2, 9, 8, 0);
        order(check, Edges.MAX, 0, 3, 9, 4, 2, 10, 8, 6, 1, 7, 11, 5);
    }

    @Edge(promise = 23, of = "a seed that wraps around: one below 0 and the least")
    static void seedWrapsBelow(Check check) {
        order(check, -1, 4, 7, 3, 2, 0, 11, 5, 10, 6, 9, 8, 1);
        order(check, Edges.MIN, 0, 9, 5, 1, 3, 2, 4, 6, 11, 7, 10, 8);
    }

    // From -1 g is below 0 at once: the shift brings zeros in, so that the place is none below 0.
    @Edge(promise = 23, of = "g below 0 is shifted without its sign")
    static void shiftWithoutSign(Check check) {
        order(check, -1, 0, 1);
        order(check, -1, 2, 0, 1);
        order(check, Edges.MIN, 1, 0, 2);
    }

    @Edge(promise = 23, of = "NONE: n is below 1 or above 12")
    static void noSuchLength(Check check) {
        GleePrize x = new GleePrize();
        for (int n : Edges.outside(1, 12)) {
            for (int i = -1; i <= 13; i++) {
                check.due("draw(" + n + ", 5, " + i + ")", x.draw(n, 5, i), -1);
            }
            check.due("draw(" + n + ", 5, " + n + ")", x.draw(n, 5, n), -1);
        }
    }

    @Edge(promise = 23, of = "NONE: a place outside the order, of each length")
    static void noSuchPlace(Check check) {
        GleePrize x = new GleePrize();
        for (int n = 1; n <= 12; n++) {
            for (int i : Edges.outside(0, n - 1)) {
                check.due("draw(" + n + ", 5, " + i + ")", x.draw(n, 5, i), -1);
            }
        }
    }

    @Edge(promise = 23, of = "each order of each length holds each number once")
    static void eachNumberOnce(Check check) {
        for (int seed : SEEDS) {
            GleePrize x = new GleePrize();
            for (int n = 1; n <= 12; n++) {
                int bits = 0;
                for (int i = 0; i < n; i++) {
                    bits |= 1 << x.draw(n, seed, i);
                }
                check.due("the numbers of draw(" + n + ", " + seed + ")", bits, (1 << n) - 1);
            }
        }
    }

    @Edge(promise = 23, of = "an order is the same again, behind a longer, a shorter and a refused one")
    static void sameAgain(Check check) {
        GleePrize x = new GleePrize();
        check.due("draw(3, 0, 0)", x.draw(3, 0, 0), 1);
        x.draw(12, 99, 11);
        check.due("draw(3, 0, 0) behind a longer one", x.draw(3, 0, 0), 1);
        x.draw(2, 7, 0);
        check.due("draw(3, 0, 1) behind a shorter one", x.draw(3, 0, 1), 2);
        x.draw(13, 7, 0);
        check.due("draw(3, 0, 2) behind a refused one", x.draw(3, 0, 2), 0);
    }
}
