/** Promises 26 to 28: visits by draws. */
public final class DrawTest {
    private static final Check c = new Check();

    public static void main(String[] args) {
        seed();
        come();
        comeBeyond();
        oddsSimple();
        oddsOfSeveral();
        oddsBeyond();
        c.end();
    }

    /** As the terms tell it, but in long arithmetic. */
    private static long next(long z) {
        return (z * 1103515245L + 12345L) & 0xffffffffL;
    }

    private static void seed() {
        SundayVisits x = new SundayVisits();
        c.due("28: at first", x.seed(-2000000), 1);
        c.due("42: z", x.count(6), -2000000);
        c.due("28: what it was", x.seed(Integer.MIN_VALUE), -2000000);
        c.due("28: what it was", x.seed(Integer.MAX_VALUE), Integer.MIN_VALUE);
        c.due("28: what it was", x.seed(Check.BEYOND), Integer.MAX_VALUE);
        c.due("28: what it was", x.seed(0), Check.BEYOND);
        c.due("28: no finding", x.status(-1), 0);
    }

    private static void come() {
        for (int seed : new int[] {1, 0, -5, 77, Integer.MIN_VALUE, Integer.MAX_VALUE}) {
            SundayVisits x = Check.homeOf(0, 1, 2, 3, 4, 5, 6);
            SundayVisits y = Check.homeOf(0, 1, 2, 3, 4, 5, 6);
            x.seed(seed);
            long z = seed & 0xffffffffL;
            for (int k = 0; k < 20; k++) {
                z = next(z);
                y.visit(y.now(0) % 6, (int) (z >> 8) % 256);
                z = next(z);
                y.set(3, 1 + (int) (z >> 8) % 12);
                int moods = y.go(1);
                if (k == 0) {
                    c.due("26: come(1)", x.come(1), moods);
                    c.due("26: the list", x.visits(0), y.visits(0));
                    c.due("26: long", x.home(3), y.home(3));
                } else if (k == 12) {
                    c.due("26: come(12)", x.come(12), moods);
                    c.due("26: sunday", x.now(0), 13);
                } else if (k == 19) {
                    c.due("26: come(7)", x.come(7), moods);
                }
            }
            c.due("26: z", x.count(6), (int) z);
            y.seed((int) z);
            c.due("26: all else as by hand", Check.seen(x).equals(Check.seen(y)) ? 1 : 0, 1);
        }
        SundayVisits w = new SundayVisits();
        c.due("26: come(1)", w.come(1), 0);
        c.due("26: the first draw from 1", w.visits(0), 126);
        c.due("26: the second draw from 1", w.home(3), 9);
        c.due("26: z behind them", w.count(6), -1770082073);
        c.due("26: come(20)", w.come(20), 0);
        c.due("26: sunday", w.now(0), 21);
    }

    private static void comeBeyond() {
        SundayVisits x = Check.homeOf(0);
        String before = Check.seen(x);
        for (int n : new int[] {0, -1, 21, Integer.MIN_VALUE, Integer.MAX_VALUE}) {
            c.due("26: come(" + n + ")", x.come(n), Check.BEYOND);
        }
        c.due("26: nothing changed", before.equals(Check.seen(x)) ? 1 : 0, 1);
        c.due("43: all told", x.status(0), 5);
    }

    private static void odds(SundayVisits x, int r, int n, long above, long below) {
        c.due("27: odds(" + r + ", " + n + ", 0)", x.odds(r, n, 0), above);
        c.due("27: odds(" + r + ", " + n + ", 1)", x.odds(r, n, 1), below);
    }

    private static void oddsSimple() {
        SundayVisits x = Check.homeOf(Check.RESIDENT);
        x.visit(0, 0);
        odds(x, 0, 0, 1, 1);
        odds(x, 0, 1, 1, 2);
        odds(x, 0, 2, 1, 4);
        odds(x, 0, 7, 1, 128);
        x.set(0, 2);
        odds(x, 0, 1, 1, 2);
        x.set(0, 1);
        odds(x, 0, 0, 1, 1);
        odds(x, 0, 1, 0, 1);
        odds(x, 0, 7, 0, 1);
        c.due("27: z stays", x.count(6), 1);
    }

    private static void oddsOfSeveral() {
        SundayVisits x = Check.homeOf(Check.RESIDENT, Check.RESIDENT);
        x.set(0, 2);
        odds(x, 0, 1, 1, 2);
        odds(x, 1, 1, 1, 4);
        odds(x, 1, 7, 1, 16384);
        SundayVisits y = Check.homeOf(2, 2, 2);
        y.set(0, 2);
        odds(y, 2, 1, 3, 8);
        odds(y, 2, 2, 9, 64);
        odds(y, 2, 7, 2187, 2097152);
        SundayVisits z = Check.homeOf(2, 2, 2, 2, 2, 2, 2, 2);
        z.set(0, 7);
        odds(z, 7, 1, 127, 256);
        odds(z, 7, 7, 532875860165503L, 72057594037927936L);
    }

    private static void oddsBeyond() {
        SundayVisits x = Check.homeOf(0, 1);
        int[][] wrong = {{-1, 0, 0}, {2, 0, 0}, {0, -1, 0}, {0, 8, 0}, {0, 0, -1}, {0, 0, 2},
            {Integer.MIN_VALUE, 0, 0}, {0, Integer.MAX_VALUE, 0}, {0, 0, Integer.MAX_VALUE}};
        for (int[] w : wrong) {
            c.due("27: odds(" + w[0] + ", " + w[1] + ", " + w[2] + ")", x.odds(w[0], w[1], w[2]), Check.BEYOND);
        }
        c.due("43: all told", x.status(0), wrong.length);
    }
}
