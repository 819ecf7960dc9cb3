/** Promises 11 to 15: what will be; nothing changes. */
public final class AheadTest {
    private static final Check c = new Check();

    public static void main(String[] args) {
        aheadTells();
        aheadBeyond();
        gladAndSad();
        gladAtTheEnd();
        sadAtTheEnd();
        whenTells();
        wellTells();
        wrongInputs();
        nothingChanges();
        c.end();
    }

    /** One resident that is visited each sixth sunday: 9 more then, 3 less on each other one. */
    private static SundayVisits sixth(int place) {
        SundayVisits x = Check.homeOf(Check.RESIDENT);
        x.set(2, 0);
        x.visit(place, 1);
        return x;
    }

    /** A sleeper with cake each sixth sunday, which loses 1 on each other one. */
    private static SundayVisits sleeper(int place, int length, int mood) {
        SundayVisits x = Check.homeOf(Check.SLEEPER);
        x.set(2, 0);
        x.set(3, length);
        x.visit(place, 1);
        x.change(0, 1, mood);
        return x;
    }

    private static void aheadTells() {
        SundayVisits x = sixth(0);
        c.due("11: mood now", x.ahead(0, 1, 0), 50);
        c.due("11: mood behind 1", x.ahead(0, 1, 1), 59);
        c.due("11: mood behind 6", x.ahead(0, 1, 6), 44);
        c.due("11: waits behind 6", x.ahead(0, 3, 6), 5);
        c.due("11: waits behind 7", x.ahead(0, 3, 7), 0);
        c.due("11: came behind 7", x.ahead(0, 4, 7), 2);
        c.due("11: came behind 100", x.ahead(0, 4, 100), 17);
        x.go(5);
        c.due("11: from this sunday on", x.ahead(0, 1, 2), 53);
    }

    private static void aheadBeyond() {
        SundayVisits x = sixth(0);
        int[][] wrong = {{-1, 1, 0}, {1, 1, 0}, {0, 0, 0}, {0, 2, 0}, {0, 5, 0}, {0, -1, 0}, {0, 1, -1}, {0, 1, 101},
            {Integer.MAX_VALUE, 1, 1}, {0, Integer.MIN_VALUE, 1}, {0, 3, Integer.MAX_VALUE}};
        for (int[] w : wrong) {
            c.due("11: ahead(" + w[0] + ", " + w[1] + ", " + w[2] + ")", x.ahead(w[0], w[1], w[2]), Check.BEYOND);
        }
        c.due("43: all told", x.status(0), wrong.length);
    }

    private static void gladAndSad() {
        SundayVisits x = sixth(0);
        c.due("12: it is so already", x.glad(0, 50), 0);
        c.due("12: the least", x.glad(0, 0), 0);
        c.due("12: behind 1", x.glad(0, 51), 1);
        c.due("12: behind 1", x.glad(0, 59), 1);
        c.due("12: never", x.glad(0, 60), Check.NONE);
        c.due("13: it is so already", x.sad(0, 50), 0);
        c.due("13: the most", x.sad(0, 99), 0);
        c.due("13: behind 5", x.sad(0, 49), 5);
        c.due("13: behind 6", x.sad(0, 44), 6);
        c.due("13: behind 48", x.sad(0, 2), 48);
        c.due("13: behind 53", x.sad(0, 0), 53);
        c.due("43: NONE", x.status(3), 1);
        SundayVisits y = Check.homeOf(Check.DREAMER);
        c.due("13: never", y.sad(0, 49), Check.NONE);
        c.due("12: by a volunteer each sunday", y.glad(0, 99), 13);
    }

    private static void gladAtTheEnd() {
        c.due("12: behind 200", sleeper(1, 5, 22).glad(0, 60), 200);
        c.due("12: behind 201 is too late", sleeper(2, 5, 23).glad(0, 60), Check.NONE);
        c.due("12: behind 195", sleeper(2, 5, 24).glad(0, 60), 195);
    }

    private static void sadAtTheEnd() {
        c.due("13: behind 200", sleeper(2, 3, 50).sad(0, 15), 200);
        c.due("13: behind 201 is too late", sleeper(3, 3, 50).sad(0, 14), Check.NONE);
        c.due("13: behind 195", sleeper(3, 3, 50).sad(0, 15), 195);
    }

    private static void whenTells() {
        SundayVisits x = sixth(0);
        c.due("14: it is so already", x.when(0, 0), 0);
        c.due("14: behind 1", x.when(0, 1), 1);
        c.due("14: behind 7", x.when(0, 2), 7);
        c.due("14: behind 199", x.when(0, 34), 199);
        c.due("14: too late", x.when(0, 35), Check.NONE);
        c.due("14: behind 200", sixth(1).when(0, 34), 200);
        c.due("14: behind 201 is too late", sixth(2).when(0, 34), Check.NONE);
        x.change(0, 4, 9998);
        c.due("14: the most", x.when(0, 9999), 1);
    }

    private static void wellTells() {
        c.due("15: nobody there", new SundayVisits().well(), 0);
        SundayVisits x = Check.homeOf(Check.DREAMER, Check.DREAMER);
        x.change(0, 1, 60);
        x.change(1, 1, 60);
        c.due("15: all are well", x.well(), 0);
        x.change(1, 1, 59);
        c.due("15: the volunteer goes to 0 first", x.well(), 2);
        x.change(0, 1, 59);
        c.due("15: both", x.well(), 2);
        x.set(2, 2);
        c.due("15: both at once", x.well(), 1);
        x.set(2, 0);
        c.due("15: never", x.well(), Check.NONE);
        c.due("43: NONE", x.status(3), 1);
        c.due("15: behind 200", sleeper(1, 5, 22).well(), 200);
        c.due("15: behind 201 is too late", sleeper(2, 5, 23).well(), Check.NONE);
    }

    private static void wrongInputs() {
        SundayVisits x = sixth(0);
        int[][] wrong = {{-1, 0}, {1, 0}, {0, -1}, {0, 100}, {Integer.MIN_VALUE, 0}, {0, Integer.MAX_VALUE}};
        for (int[] w : wrong) {
            c.due("12: glad(" + w[0] + ", " + w[1] + ")", x.glad(w[0], w[1]), Check.BEYOND);
            c.due("13: sad(" + w[0] + ", " + w[1] + ")", x.sad(w[0], w[1]), Check.BEYOND);
        }
        int[][] wrongWhen = {{-1, 0}, {1, 0}, {0, -1}, {0, 10000}, {Integer.MAX_VALUE, 0}, {0, Integer.MIN_VALUE}};
        for (int[] w : wrongWhen) {
            c.due("14: when(" + w[0] + ", " + w[1] + ")", x.when(w[0], w[1]), Check.BEYOND);
        }
        c.due("43: all told", x.status(0), 18);
    }

    private static void nothingChanges() {
        SundayVisits x = Check.homeOf(0, 1, 2, 3, 4, 5, 6);
        x.visit(0, 21);
        x.go(2);
        String before = Check.seen(x);
        x.ahead(0, 1, 50);
        x.glad(1, 99);
        x.sad(1, 0);
        x.when(0, 30);
        x.well();
        c.due("11 to 15: nothing changes", before.equals(Check.seen(x)) ? 1 : 0, 1);
    }
}
