/** Promises 16 to 22: how to visit. */
public final class PlanTest {
    private static final Check c = new Check();

    public static void main(String[] args) {
        longFor();
        chairsFor();
        volunteersFor();
        comeOn();
        kindFor();
        friendFor();
        friendNobody();
        away();
        awayFewest();
        wrongInputs();
        nothingChanges();
        c.end();
    }

    private static SundayVisits visitedAlways(int kind, int mood) {
        SundayVisits x = Check.homeOf(kind);
        x.set(2, 0);
        for (int i = 0; i < 6; i++) {
            x.visit(i, 1);
        }
        x.change(0, 1, mood);
        return x;
    }

    private static void longFor() {
        c.due("16: a watcher", visitedAlways(Check.WATCHER, 0).longFor(1), 6);
        c.due("16: a resident, of several the least", visitedAlways(Check.RESIDENT, 0).longFor(1), 6);
        c.due("16: a lively one", visitedAlways(Check.LIVELY, 0).longFor(1), 12);
        c.due("16: no more than 99", visitedAlways(Check.LIVELY, 90).longFor(1), 3);
        c.due("16: behind 40", visitedAlways(Check.SLEEPER, 0).longFor(40), 2);
        c.due("16: behind none", visitedAlways(Check.LIVELY, 0).longFor(0), 1);
        c.due("16: nobody there", new SundayVisits().longFor(3), 1);
    }

    private static void chairsFor() {
        SundayVisits x = Check.homeOf(Check.RESIDENT, Check.LIVELY, Check.GRANNY);
        x.visit(0, 7);
        int[] due = {0, 2, 5, 9, Check.NONE};
        for (int v = 0; v < due.length; v++) {
            c.due("17: chairsFor(" + v + ", 1)", x.chairsFor(v, 1), due[v]);
        }
        c.due("17: behind none", x.chairsFor(1, 0), Check.NONE);
        c.due("17: behind 7", x.chairsFor(6, 7), 9);
        x.change(2, 4, 5);
        c.due("17: of all together", x.chairsFor(5, 1), 0);
        c.due("17: of all together", x.chairsFor(6, 1), 2);
        x.change(2, 4, 9999);
        c.due("17: the most", x.chairsFor(9999, 0), 0);
        SundayVisits y = Check.homeOf(6, 6, 6, 6, 6);
        y.visit(0, 31);
        c.due("17: all chairs", y.chairsFor(5, 1), 20);
    }

    private static void volunteersFor() {
        SundayVisits x = Check.homeOf(0, 0, 0);
        c.due("18: without", x.volunteersFor(47, 1), 0);
        c.due("18: for all", x.volunteersFor(48, 1), 3);
        c.due("18: for all", x.volunteersFor(54, 1), 3);
        c.due("18: never", x.volunteersFor(55, 1), Check.NONE);
        c.due("18: behind none", x.volunteersFor(50, 0), 0);
        c.due("18: behind none", x.volunteersFor(51, 0), Check.NONE);
        c.due("18: behind 40", x.volunteersFor(99, 40), 3);
        x.change(1, 1, 0);
        c.due("18: the least", x.volunteersFor(0, 1), 0);
        c.due("18: nobody is below", x.volunteersFor(1, 1), 2);
        x.change(1, 1, 50);
        for (int r = 0; r < 3; r += 2) {
            x.change(r, 1, 40);
            c.due("18: also of " + r, x.volunteersFor(41, 0), Check.NONE);
            x.change(r, 1, 50);
        }
        SundayVisits y = Check.homeOf(0, 0, 0, 0, 0, 0, 0, 0);
        c.due("18: all eight", y.volunteersFor(54, 1), 8);
        y.change(7, 1, 40);
        c.due("18: also of the eighth", y.volunteersFor(41, 0), Check.NONE);
        c.due("18: nobody there", new SundayVisits().volunteersFor(99, 5), 0);
    }

    private static void comeOn() {
        SundayVisits x = Check.homeOf(Check.RESIDENT);
        x.set(2, 0);
        c.due("19: this sunday", x.comeOn(0, 1), 0);
        c.due("19: behind none", x.comeOn(0, 0), 0);
        x.change(0, 1, 95);
        c.due("19: not too early", x.comeOn(0, 6), 2);
        x.visit(2, 1);
        c.due("19: not where it is already", x.comeOn(0, 6), 5);
        x.go(4);
        c.due("19: by the sunday", x.comeOn(0, 1), 4);
        x.set(0, 1);
        c.due("19: no chairs", x.comeOn(0, 40), 0);
        SundayVisits y = Check.homeOf(Check.RESIDENT, Check.RESIDENT);
        y.set(0, 2);
        y.set(2, 0);
        y.visit(0, 1);
        y.visit(1, 1);
        c.due("19: where chairs are left", y.comeOn(1, 3), 2);
        c.due("19: its number", y.comeOn(0, 3), 2);
    }

    private static void kindFor() {
        SundayVisits x = Check.homeOf(Check.SLEEPER);
        x.set(2, 0);
        x.visit(0, 1);
        c.due("20: as lively", x.kindFor(0, 1), Check.LIVELY);
        x.set(0, 2);
        c.due("20: with two chairs", x.kindFor(0, 1), Check.VAGUE);
        x.set(0, 0);
        c.due("20: without chairs", x.kindFor(0, 1), Check.DREAMER);
        x.set(2, 1);
        c.due("20: all the same", x.kindFor(0, 1), Check.RESIDENT);
        c.due("20: behind none", x.kindFor(0, 0), Check.RESIDENT);
        SundayVisits y = Check.homeOf(Check.RESIDENT, Check.SLEEPER);
        y.set(2, 0);
        y.change(1, 2, 0);
        y.visit(0, 1);
        c.due("20: shares", y.kindFor(1, 1), Check.GRANNY);
        c.due("20: the kind stays", y.of(1, 0), Check.SLEEPER);
    }

    private static void friendFor() {
        SundayVisits x = Check.homeOf(Check.VAGUE, Check.RESIDENT, Check.RESIDENT);
        x.set(2, 0);
        x.visit(0, 4);
        c.due("21: the one that is visited", x.friendFor(0, 1), 2);
        c.due("21: behind none the least", x.friendFor(0, 0), 1);
        c.due("21: one that does not share", x.friendFor(1, 1), 0);
        c.due("21: never itself", x.friendFor(2, 1), 0);
        x.change(2, 0, Check.VAGUE);
        x.visit(0, 2);
        c.due("21: one between", x.friendFor(2, 1), 1);
        c.due("21: the friend stays", x.of(0, 2), -1);
        c.due("21: alone", Check.homeOf(Check.VAGUE).friendFor(0, 5), -1);
    }

    private static void friendNobody() {
        SundayVisits x = Check.homeOf(Check.VAGUE, Check.RESIDENT, Check.RESIDENT);
        x.set(3, 1);
        x.visit(0, 6);
        x.change(0, 2, 1);
        c.due("21: the volunteer is better", x.friendFor(0, 1), -1);
        x.visit(0, 2);
        c.due("21: nobody comes last", x.friendFor(0, 1), 2);
    }

    private static void away() {
        SundayVisits x = Check.homeOf(Check.RESIDENT, Check.RESIDENT);
        x.set(0, 2);
        x.set(2, 0);
        x.visit(0, 3);
        x.visit(1, 3);
        c.due("22: never", x.away(1, 1), Check.NONE);
        c.due("22: from all of the list", x.away(1, 2), 1);
        c.due("22: nobody needs to", x.away(0, 2), 0);
        c.due("22: behind none", x.away(1, 0), Check.NONE);
        x.change(1, 1, 60);
        c.due("22: well already", x.away(1, 0), 0);
        c.due("22: the list stays", x.visits(0), 3);
        c.due("43: NONE", x.status(3), 2);
        SundayVisits y = Check.homeOf(0, 0, 0, 0, 0, 0, 0, 0);
        y.set(0, 2);
        y.set(2, 0);
        y.visit(0, 255);
        y.change(7, 1, 55);
        c.due("22: all the others", y.away(7, 1), 127);
        c.due("22: behind 20 it is over", y.away(7, 20), Check.NONE);
    }

    private static void awayFewest() {
        SundayVisits x = Check.homeOf(Check.SLEEPER, Check.SLEEPER, Check.RESIDENT, Check.RESIDENT);
        x.set(0, 4);
        x.set(2, 0);
        x.visit(0, 15);
        x.change(3, 1, 55);
        c.due("22: one is fewer than two", x.away(3, 1), 4);
        SundayVisits y = Check.homeOf(Check.RESIDENT, Check.RESIDENT, Check.RESIDENT);
        y.set(0, 4);
        y.set(2, 0);
        y.visit(0, 7);
        y.change(2, 1, 55);
        c.due("22: of several the least", y.away(2, 1), 1);
        SundayVisits z = Check.homeOf(Check.SLEEPER, Check.RESIDENT);
        z.set(2, 1);
        z.set(3, 1);
        z.visit(0, 1);
        z.change(0, 1, 58);
        c.due("22: the told one stays on the list", z.away(0, 1), 0);
        z.change(0, 1, 57);
        c.due("22: the told one is no other one", z.away(0, 1), Check.NONE);
    }

    private static void wrongInputs() {
        SundayVisits x = Check.homeOf(0, 1);
        int told = 0;
        for (int n : new int[] {-1, 41, Integer.MIN_VALUE, Integer.MAX_VALUE}) {
            c.due("16: longFor(" + n + ")", x.longFor(n), Check.BEYOND);
            c.due("17: chairsFor(0, " + n + ")", x.chairsFor(0, n), Check.BEYOND);
            c.due("18: volunteersFor(0, " + n + ")", x.volunteersFor(0, n), Check.BEYOND);
            c.due("19: comeOn(0, " + n + ")", x.comeOn(0, n), Check.BEYOND);
            c.due("20: kindFor(0, " + n + ")", x.kindFor(0, n), Check.BEYOND);
            c.due("21: friendFor(0, " + n + ")", x.friendFor(0, n), Check.BEYOND);
            int days = n == 41 ? 21 : n;
            c.due("22: away(0, " + days + ")", x.away(0, days), Check.BEYOND);
            told += 7;
        }
        for (int r : new int[] {-1, 2, Integer.MIN_VALUE, Integer.MAX_VALUE}) {
            c.due("19: comeOn(" + r + ", 1)", x.comeOn(r, 1), Check.BEYOND);
            c.due("20: kindFor(" + r + ", 1)", x.kindFor(r, 1), Check.BEYOND);
            c.due("21: friendFor(" + r + ", 1)", x.friendFor(r, 1), Check.BEYOND);
            c.due("22: away(" + r + ", 1)", x.away(r, 1), Check.BEYOND);
            told += 4;
        }
        c.due("17: chairsFor(-1, 1)", x.chairsFor(-1, 1), Check.BEYOND);
        c.due("17: chairsFor(10000, 1)", x.chairsFor(10000, 1), Check.BEYOND);
        c.due("18: volunteersFor(-1, 1)", x.volunteersFor(-1, 1), Check.BEYOND);
        c.due("18: volunteersFor(100, 1)", x.volunteersFor(100, 1), Check.BEYOND);
        c.due("43: all told", x.status(0), told + 4);
    }

    private static void nothingChanges() {
        SundayVisits x = Check.homeOf(0, 1, 2, 3, 4, 5, 6);
        x.visit(0, 21);
        x.go(2);
        String before = Check.seen(x);
        x.longFor(10);
        x.chairsFor(9, 10);
        x.volunteersFor(60, 10);
        x.comeOn(1, 10);
        x.kindFor(1, 10);
        x.friendFor(1, 10);
        x.away(1, 10);
        c.due("16 to 22: nothing changes", before.equals(Check.seen(x)) ? 1 : 0, 1);
    }
}
