/** Promise 23: draw. */
public final class DrawTest {
    public static void main(String[] args) {
        Check check = new Check();
        GleePrize x = new GleePrize();
        wrongInputs(check, x);
        knownOrders(check, x);
        int[] seeds = {0, 1, -1, 7, 123456789, -987654321, Integer.MAX_VALUE, Integer.MIN_VALUE};
        for (int seed : seeds) {
            for (int n = 1; n <= 12; n++) {
                for (int i = -1; i <= n; i++) {
                    int due = new PlainDesk().draw(n, seed, i);
                    check.due("draw(" + n + ", " + seed + ", " + i + ")", x.draw(n, seed, i), due);
                }
            }
        }
        check.end();
    }

    private static void wrongInputs(Check check, GleePrize x) {
        check.due("draw(0, 1, 0)", x.draw(0, 1, 0), -1);
        check.due("draw(-1, 1, 0)", x.draw(-1, 1, 0), -1);
        check.due("draw(13, 1, 0)", x.draw(13, 1, 0), -1);
        check.due("draw(13, 1, 12)", x.draw(13, 1, 12), -1);
        check.due("draw(4, 1, -1)", x.draw(4, 1, -1), -1);
        check.due("draw(4, 1, 4)", x.draw(4, 1, 4), -1);
        check.due("draw(min, 1, min)", x.draw(Integer.MIN_VALUE, 1, Integer.MIN_VALUE), -1);
        check.due("draw(max, 1, max)", x.draw(Integer.MAX_VALUE, 1, Integer.MAX_VALUE), -1);
    }

    // From seed 0 g is 12345 first: 48 % 3 is 0, so 2 and 0 change places; then (g >>> 8) is even.
    private static void knownOrders(Check check, GleePrize x) {
        check.due("draw(1, 99, 0)", x.draw(1, 99, 0), 0);
        check.due("draw(3, 0, 0)", x.draw(3, 0, 0), 1);
        check.due("draw(3, 0, 1)", x.draw(3, 0, 1), 2);
        check.due("draw(3, 0, 2)", x.draw(3, 0, 2), 0);
    }
}
