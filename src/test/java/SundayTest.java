/** Promises 9 and 10: how a SUNDAY goes by, and what is now. */
public final class SundayTest {
    private static final Check c = new Check();

    public static void main(String[] args) {
        chairs();
        listBySundays();
        visitedOnes();
        cake();
        withoutAnybody();
        watcherSeesVisits();
        vagueWaits();
        sharing();
        sharingHalf();
        volunteers();
        moodHeld();
        talliesHeld();
        manySundays();
        goBeyond();
        nowTells();
        nowBeyond();
        c.end();
    }

    private static void chairs() {
        SundayVisits x = Check.homeOf(Check.RESIDENT, Check.LIVELY, Check.SLEEPER, Check.GRANNY);
        int[] due = {0, 4, 1, 5, 5, 3, 7, 7, 7, 7, 15, 15};
        for (int set : new int[] {15, 255}) {
            x.visit(0, set);
            for (int chairs = 0; chairs < due.length; chairs++) {
                x.set(0, chairs);
                c.due("10: who is visited with " + chairs + " chairs", x.now(3), due[chairs]);
            }
        }
        x.visit(0, 10);
        x.set(0, 4);
        c.due("10: only of the list", x.now(3), 2);
    }

    private static void listBySundays() {
        SundayVisits x = Check.homeOf(2, 2, 2, 2, 2, 2);
        for (int i = 0; i < 6; i++) {
            x.visit(i, 1 << i);
        }
        for (int k = 0; k < 13; k++) {
            c.due("10: sunday " + k, x.now(3), 1 << k % 6);
            x.go(1);
            c.due("10: the number of the sunday", x.now(0), k + 1);
        }
        c.due("9: came", x.of(0, 4), 3);
        c.due("9: came", x.of(1, 4), 2);
    }

    private static void visitedOnes() {
        SundayVisits x = Check.homeOf(0, 1, 2, 3, 4, 5, 6);
        x.set(0, 14);
        x.set(2, 0);
        x.visit(0, 127);
        for (int r = 0; r < 7; r++) {
            x.change(r, 3, 5);
        }
        c.due("9: moods together", x.go(1), 419);
        int[] moods = {59, 63, 55, 60, 60, 59, 63};
        for (int r = 0; r < 7; r++) {
            c.due("9: mood of a visited " + r, x.of(r, 1), moods[r]);
            c.due("9: waits of a visited " + r, x.of(r, 3), 0);
            c.due("9: came of a visited " + r, x.of(r, 4), 1);
        }
    }

    private static void cake() {
        SundayVisits x = Check.homeOf(2, 2, 2, 2);
        x.set(1, 2);
        x.set(2, 0);
        x.visit(0, 14);
        x.visit(1, 15);
        x.go(1);
        int[] first = {49, 55, 55, 54};
        for (int r = 0; r < 4; r++) {
            c.due("9: cake for the first of those visited, " + r, x.of(r, 1), first[r]);
        }
        x.go(1);
        int[] second = {54, 60, 59, 58};
        for (int r = 0; r < 4; r++) {
            c.due("9: new cake on the next sunday, " + r, x.of(r, 1), second[r]);
        }
        c.due("9: cake is for each sunday", x.home(1), 2);
        SundayVisits y = Check.homeOf(0);
        y.set(1, 0);
        y.visit(0, 1);
        c.due("9: no cake", y.go(1), 58);
    }

    private static void withoutAnybody() {
        SundayVisits x = Check.homeOf(0, 1, 2, 3, 4, 5, 6);
        x.set(2, 0);
        c.due("9: moods together", x.go(1), 338);
        int[] moods = {47, 48, 49, 49, 50, 47, 48};
        for (int r = 0; r < 7; r++) {
            c.due("9: mood of one alone " + r, x.of(r, 1), moods[r]);
            c.due("9: waits of one alone " + r, x.of(r, 3), 1);
            c.due("9: came of one alone " + r, x.of(r, 4), 0);
        }
    }

    private static void watcherSeesVisits() {
        SundayVisits x = Check.homeOf(Check.RESIDENT, Check.VAGUE, Check.WATCHER, Check.SLEEPER, Check.SLEEPER);
        x.change(1, 2, 0);
        x.change(3, 3, 9);
        x.visit(0, 17);
        c.due("10: visited", x.now(3), 17);
        c.due("10: sharing", x.now(4), 2);
        c.due("10: volunteers", x.now(5), 8);
        x.go(1);
        c.due("9: a watcher loses 3 and 2 for those visited", x.of(2, 1), 45);
        c.due("9: mood of one that shares", x.of(1, 1), 54);
        c.due("9: waits of one that shares", x.of(1, 3), 1);
        c.due("9: came of one that shares", x.of(1, 4), 0);
        c.due("9: mood by a volunteer", x.of(3, 1), 54);
        c.due("9: waits by a volunteer", x.of(3, 3), 0);
        c.due("9: came by a volunteer", x.of(3, 4), 0);
        SundayVisits y = Check.homeOf(Check.WATCHER, Check.RESIDENT);
        y.set(2, 0);
        y.visit(0, 2);
        y.go(1);
        c.due("9: a watcher ahead of the one visited", y.of(0, 1), 46);
    }

    private static void vagueWaits() {
        SundayVisits x = Check.homeOf(Check.VAGUE, Check.VAGUE);
        x.set(2, 0);
        x.change(0, 3, 3);
        x.change(1, 3, 4);
        x.go(1);
        c.due("9: a vague one that waits 3", x.of(0, 1), 49);
        c.due("9: a vague one that waits 4", x.of(1, 1), 48);
        x.go(1);
        c.due("9: it waits 4 now", x.of(0, 1), 47);
    }

    private static void sharing() {
        SundayVisits x = Check.homeOf(Check.RESIDENT, Check.RESIDENT, Check.RESIDENT, Check.DREAMER,
            Check.VAGUE, Check.GRANNY, Check.SLEEPER);
        x.set(2, 0);
        for (int r = 1; r < 7; r++) {
            x.change(r, 2, 0);
        }
        x.change(1, 1, 69);
        x.change(2, 1, 70);
        x.change(3, 1, 99);
        x.change(4, 1, 0);
        x.change(5, 1, 0);
        x.change(6, 2, 4);
        x.change(6, 1, 80);
        x.visit(0, 1);
        c.due("10: who shares", x.now(4), 4 + 16 + 32);
        x.go(1);
        int[] moods = {59, 66, 74, 99, 4, 6, 79};
        for (int r = 0; r < 7; r++) {
            c.due("9: mood of " + r, x.of(r, 1), moods[r]);
        }
        SundayVisits y = Check.homeOf(Check.RESIDENT, Check.VAGUE);
        y.change(1, 2, 0);
        y.set(0, 1);
        y.visit(0, 1);
        c.due("10: no chairs, nothing to share", y.now(4), 0);
        y.set(0, 3);
        y.visit(0, 3);
        c.due("10: one that is visited does not share", y.now(4), 0);
        c.due("10: both are visited", y.now(3), 3);
        y.set(0, 2);
        c.due("10: one that is on the list but has no chair shares", y.now(4), 2);
    }

    private static void sharingHalf() {
        int[][] due = {{1, Check.LIVELY, 81}, {3, Check.LIVELY, 84}, {7, Check.WATCHER, 85}, {2, Check.SLEEPER, 81},
            {3, Check.SLEEPER, 81}, {4, Check.VAGUE, 84}};
        for (int[] row : due) {
            SundayVisits x = Check.homeOf(Check.RESIDENT, row[1]);
            x.change(1, 1, 80);
            x.change(1, 2, 0);
            x.change(1, 3, 7);
            x.set(3, row[0]);
            x.visit(0, 1);
            x.go(1);
            c.due("9: half of what kind " + row[1] + " gains", x.of(1, 1), row[2]);
            c.due("9: waits of one that shares", x.of(1, 3), 8);
        }
    }

    private static void volunteers() {
        SundayVisits x = Check.homeOf(0, 0, 0, 0);
        int[] waits = {3, 5, 5, 1};
        for (int r = 0; r < 4; r++) {
            x.change(r, 3, waits[r]);
        }
        int[] due = {0, 2, 6, 7, 15, 15, 15, 15, 15};
        for (int v = 0; v <= 8; v++) {
            x.set(2, v);
            c.due("10: " + v + " volunteers go to", x.now(5), due[v]);
        }
        x.set(2, 1);
        x.visit(0, 2);
        c.due("10: not to one that is visited", x.now(5), 4);
        x.change(2, 0, Check.VAGUE);
        x.change(2, 2, 1);
        c.due("10: not to one that shares", x.now(5), 1);
        x.go(1);
        c.due("9: mood by a volunteer", x.of(0, 1), 54);
        c.due("9: waits by a volunteer", x.of(0, 3), 0);
        c.due("9: mood without", x.of(3, 1), 47);
        c.due("9: waits without", x.of(3, 3), 2);
    }

    private static void moodHeld() {
        SundayVisits x = Check.homeOf(0, 0, 0, Check.VAGUE);
        x.set(2, 1);
        int[] moods = {95, 96, 2, 98};
        for (int r = 0; r < 4; r++) {
            x.change(r, 1, moods[r]);
        }
        x.change(1, 3, 1);
        x.change(3, 2, 0);
        x.visit(0, 1);
        c.due("9: all held within 0 to 99", x.go(1), 297);
        int[] then = {99, 99, 0, 99};
        for (int r = 0; r < 4; r++) {
            c.due("9: mood held of " + r, x.of(r, 1), then[r]);
        }
        SundayVisits y = Check.homeOf(0, 0, 0);
        y.set(2, 0);
        y.set(1, 0);
        y.change(0, 1, 90);
        y.change(1, 1, 91);
        y.change(2, 1, 3);
        y.visit(0, 3);
        c.due("9: just at the edges", y.go(1), 98 + 99);
    }

    private static void talliesHeld() {
        SundayVisits x = Check.homeOf(0, Check.VAGUE, 0);
        x.set(2, 0);
        x.change(0, 4, 9999);
        x.change(1, 2, 0);
        x.change(1, 3, 9999);
        x.change(2, 3, 9998);
        x.visit(0, 1);
        x.go(1);
        c.due("9: came is 9999 at most", x.of(0, 4), 9999);
        c.due("9: waits is 9999 at most, sharing", x.of(1, 3), 9999);
        c.due("9: waits goes up to 9999", x.of(2, 3), 9999);
        x.go(1);
        c.due("9: waits is 9999 at most, alone", x.of(2, 3), 9999);
    }

    private static void manySundays() {
        SundayVisits x = Check.homeOf(0);
        x.set(2, 0);
        x.visit(0, 1);
        c.due("9: 7 sundays", x.go(7), 53);
        c.due("10: sunday", x.now(0), 7);
        c.due("9: came", x.of(0, 4), 2);
        c.due("9: waits", x.of(0, 3), 0);
        x.go(60);
        c.due("9: 60 sundays", x.now(0), 67);
        c.due("9: nobody there", new SundayVisits().go(60), 0);
    }

    private static void goBeyond() {
        SundayVisits x = Check.homeOf(0);
        for (int n : new int[] {0, -1, 61, Integer.MIN_VALUE, Integer.MAX_VALUE}) {
            c.due("9: go(" + n + ")", x.go(n), Check.BEYOND);
        }
        c.due("9: no sunday went by", x.now(0), 0);
        c.due("43: all told", x.status(0), 5);
        // SUNDAY can't come above 99999 within 512 calls of 60 at most: STATE has no test.
    }

    private static void nowTells() {
        SundayVisits x = Check.homeOf(0, 1, 2);
        x.change(0, 1, 59);
        x.change(1, 1, 60);
        x.change(2, 1, 99);
        x.change(0, 4, 9999);
        x.change(1, 4, 9999);
        x.change(2, 4, 2);
        c.due("10: moods together", x.now(1), 218);
        c.due("10: who are well", x.now(2), 6);
        c.due("10: of several the least waits longest", x.now(6), 0);
        x.change(1, 3, 1);
        x.change(2, 3, 1);
        c.due("10: who waits longest", x.now(6), 1);
        x.visit(0, 2);
        c.due("10: also if it would be visited", x.now(6), 1);
        c.due("10: came of all", x.now(7), 20000);
        String before = Check.seen(x);
        for (int what = 0; what < 8; what++) {
            x.now(what);
        }
        c.due("10: nothing changes", before.equals(Check.seen(x)) ? 1 : 0, 1);
        SundayVisits y = new SundayVisits();
        int[] none = {0, 0, 0, 0, 0, 0, -1, 0};
        y.visit(0, 255);
        for (int what = 0; what < 8; what++) {
            c.due("10: now(" + what + ") without residents", y.now(what), none[what]);
        }
    }

    private static void nowBeyond() {
        SundayVisits x = Check.homeOf(0);
        for (int what : new int[] {-1, 8, Integer.MIN_VALUE, Integer.MAX_VALUE}) {
            c.due("10: now(" + what + ")", x.now(what), Check.BEYOND);
        }
        c.due("43: all told", x.status(0), 4);
    }
}
