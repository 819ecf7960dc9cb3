/** Promises 6 to 8: residents, their kinds, their facts. */
public final class ResidentTest {
    private static final Check c = new Check();

    public static void main(String[] args) {
        newOnes();
        firstFacts();
        seats();
        gains();
        loses();
        shares();
        ofBeyond();
        changes();
        changesBeyond();
        c.end();
    }

    private static void newOnes() {
        SundayVisits x = new SundayVisits();
        c.due("6: resident(-1)", x.resident(-1), Check.BEYOND);
        c.due("6: resident(7)", x.resident(7), Check.BEYOND);
        for (int r = 0; r < 8; r++) {
            c.due("6: the number", x.resident(r % 7), r);
            c.due("6: how many", x.count(1), r + 1);
        }
        c.due("6: a ninth one", x.resident(0), Check.FULL);
        c.due("6: BEYOND is asked first", x.resident(7), Check.BEYOND);
        c.due("6: still eight", x.count(1), 8);
        for (int r = 0; r < 8; r++) {
            c.due("7: kind of " + r, x.of(r, 0), r % 7);
        }
        c.due("43: FULL", x.status(1), 1);
        c.due("43: BEYOND", x.status(0), 3);
    }

    private static void firstFacts() {
        SundayVisits x = Check.homeOf(Check.GRANNY);
        int[] facts = {6, 50, -1, 0, 0};
        for (int what = 0; what < 5; what++) {
            c.due("7: of(0, " + what + ") at first", x.of(0, what), facts[what]);
        }
    }

    private static void seats() {
        int[] due = {2, 3, 1, 1, 1, 2, 4};
        for (int kind = 0; kind < 7; kind++) {
            c.due("7: seats of kind " + kind, Check.homeOf(kind).of(0, 5), due[kind]);
        }
    }

    private static void gains() {
        int[][] due = {
            {1, 2, 3, 1, 6, 6, 2, 3},
            {4, 8, 12, 4, 9, 9, 8, 12},
            {5, 10, 15, 5, 10, 10, 10, 15},
            {6, 12, 18, 6, 11, 11, 12, 18},
            {7, 12, 19, 6, 11, 11, 10, 19},
            {12, 12, 24, 6, 11, 11, 10, 24}};
        for (int[] row : due) {
            for (int kind = 0; kind < 7; kind++) {
                SundayVisits x = Check.homeOf(kind);
                x.set(3, row[0]);
                c.due("7: gains of kind " + kind + " with long " + row[0], x.of(0, 6), row[kind + 1]);
            }
        }
    }

    private static void loses() {
        int[] due = {3, 2, 1, 1, 0, 3, 2};
        for (int kind = 0; kind < 7; kind++) {
            SundayVisits x = Check.homeOf(kind);
            x.change(0, 3, 3);
            c.due("7: loses of kind " + kind, x.of(0, 7), due[kind]);
            x.change(0, 3, 4);
            c.due("7: loses of kind " + kind + " that waits 4", x.of(0, 7), kind == Check.VAGUE ? 2 : due[kind]);
        }
        SundayVisits y = Check.homeOf(Check.WATCHER, Check.RESIDENT);
        y.visit(0, 2);
        c.due("7: a watcher loses as if nobody were visited", y.of(0, 7), 3);
    }

    private static void shares() {
        for (int kind = 0; kind < 7; kind++) {
            SundayVisits x = Check.homeOf(kind);
            boolean always = kind == Check.GRANNY || kind == Check.VAGUE;
            x.change(0, 1, 69);
            c.due("7: kind " + kind + " shares with mood 69", x.of(0, 8), always ? 1 : 0);
            x.change(0, 1, 70);
            c.due("7: kind " + kind + " shares with mood 70", x.of(0, 8), kind == Check.DREAMER ? 0 : 1);
        }
    }

    private static void ofBeyond() {
        SundayVisits x = Check.homeOf(Check.RESIDENT, Check.LIVELY);
        int[][] wrong = {{-1, 0}, {2, 0}, {0, -1}, {0, 9}, {7, 8}, {Integer.MIN_VALUE, 0}, {1, Integer.MAX_VALUE}};
        for (int[] w : wrong) {
            c.due("7: of(" + w[0] + ", " + w[1] + ")", x.of(w[0], w[1]), Check.BEYOND);
        }
        c.due("43: all told", x.status(0), wrong.length);
    }

    private static void changes() {
        SundayVisits x = Check.homeOf(Check.RESIDENT, Check.LIVELY, Check.SLEEPER);
        c.due("8: kind", x.change(1, 0, 6), 1);
        c.due("8: mood", x.change(1, 1, 99), 50);
        c.due("8: friend", x.change(1, 2, 2), -1);
        c.due("8: waits", x.change(1, 3, 9999), 0);
        c.due("8: came", x.change(1, 4, 9998), 0);
        int[] facts = {6, 99, 2, 9999, 9998, 4};
        for (int what = 0; what < 6; what++) {
            c.due("7: of(1, " + what + ")", x.of(1, what), facts[what]);
        }
        c.due("8: nobody", x.change(1, 2, -1), 2);
        c.due("7: nobody", x.of(1, 2), -1);
        c.due("8: friend before it", x.change(1, 2, 0), -1);
        c.due("8: least kind", x.change(1, 0, 0), 6);
        c.due("8: least mood", x.change(1, 1, 0), 99);
        c.due("8: least waits", x.change(1, 3, 0), 9999);
        c.due("8: most came", x.change(1, 4, 9999), 9998);
        c.due("8: least came", x.change(1, 4, 0), 9999);
        c.due("8: others stay", x.of(2, 0), 2);
        c.due("8: others stay", x.of(0, 1), 50);
    }

    private static void changesBeyond() {
        SundayVisits x = Check.homeOf(Check.RESIDENT, Check.LIVELY, Check.SLEEPER);
        int[][] wrong = {{-1, 0, 0}, {3, 0, 0}, {0, -1, 0}, {0, 5, 0}, {0, 8, 1}, {0, 0, -1}, {0, 0, 7},
            {0, 1, -1}, {0, 1, 100}, {0, 2, -2}, {0, 2, 3}, {0, 2, 0}, {2, 2, 2}, {0, 3, -1}, {0, 3, 10000},
            {0, 4, -1}, {0, 4, 10000}, {Integer.MAX_VALUE, 1, 1}, {0, Integer.MIN_VALUE, 1}, {0, 2, Integer.MAX_VALUE}};
        String before = Check.seen(x);
        for (int[] w : wrong) {
            c.due("8: change(" + w[0] + ", " + w[1] + ", " + w[2] + ")", x.change(w[0], w[1], w[2]), Check.BEYOND);
        }
        c.due("8: nothing changed", before.equals(Check.seen(x)) ? 1 : 0, 1);
        c.due("43: all told", x.status(0), wrong.length);
    }
}
