/** Promises 23 to 25: moods and kinds as a sheet tells. */
public final class ToldTest {
    private static final Check c = new Check();

    public static void main(String[] args) {
        wellNow();
        wellFurtherOn();
        wellByOthers();
        kindsTold();
        longSheets();
        findings();
        nothingChanges();
        c.end();
    }

    private static SundayVisits alone(int kind) {
        SundayVisits x = Check.homeOf(kind);
        x.set(2, 0);
        return x;
    }

    private static void told(SundayVisits x, int r, int fits, int least, int... numbers) {
        Check.sheetOf(x, 1, 16, numbers);
        c.due("23: fits " + java.util.Arrays.toString(numbers), x.fits(1, r), fits);
        c.due("24: mood " + java.util.Arrays.toString(numbers), x.mood(1, r), least);
    }

    private static void wellNow() {
        SundayVisits x = alone(Check.RESIDENT);
        told(x, 0, 40, 60, 1);
        told(x, 0, 60, 0, 0);
        told(x, 0, 100, 0, -1);
        told(x, 0, 100, 0);
        told(x, 0, 0, Check.NONE, 2);
        told(x, 0, 0, Check.NONE, -2);
    }

    private static void wellFurtherOn() {
        SundayVisits x = alone(Check.RESIDENT);
        told(x, 0, 37, 63, 1, 1);
        told(x, 0, 37, 63, -1, 1);
        told(x, 0, 3, 60, 1, 0);
        told(x, 0, 3, 63, 1, 1, 0);
        told(x, 0, 0, Check.NONE, 0, 1);
        x.visit(0, 1);
        told(x, 0, 9, 51, 0, 1);
        told(x, 0, 3, 51, 0, 1, 0);
        told(x, 0, 3, 51, -1, 1, 0);
        c.due("24: NONE is told", x.status(3), 1);
    }

    private static void wellByOthers() {
        SundayVisits x = Check.homeOf(Check.RESIDENT, Check.RESIDENT);
        x.change(1, 2, 0);
        x.visit(0, 1);
        // Below 70 the volunteer comes to it (4 more), from 70 on it shares (4 more, too) and goes on waiting.
        told(x, 1, 4, 56, 0, 1);
        told(x, 1, 44, 56, -1, 1, -1);
        x.set(2, 0);
        told(x, 1, 37, 63, -1, 1);
        told(x, 1, 34, 66, 1, 1, 1);
    }

    private static void kinds(SundayVisits x, int due, int... numbers) {
        Check.sheetOf(x, 2, 8, numbers);
        c.due("25: kinds " + java.util.Arrays.toString(numbers), x.kinds(2, 0), due);
    }

    private static void kindsTold() {
        SundayVisits x = alone(Check.WATCHER);
        kinds(x, 127);
        kinds(x, 127, 50);
        kinds(x, 127, -1, -1);
        kinds(x, 0, 49);
        kinds(x, 33, -1, 47);
        kinds(x, 66, 50, 48);
        kinds(x, 12, 50, 49);
        kinds(x, 16, 50, 50);
        kinds(x, 12, 50, 49, 48, 47, 46);
        kinds(x, 4, 50, 49, 48, 47, 46, 45);
        kinds(x, 8, 50, 49, 48, 47, 46, 44);
        kinds(x, 0, 50, 49, 50);
        x.visit(0, 1);
        kinds(x, 24, -1, 60);
        kinds(x, 8, -1, 60, 59);
        c.due("25: no NONE", x.status(-1), 0);
    }

    private static void longSheets() {
        SundayVisits x = alone(Check.RESIDENT);
        int[] numbers = new int[40];
        java.util.Arrays.fill(numbers, -1);
        numbers[13] = 1;
        numbers[14] = 0;
        told(x, 0, 1, 99, numbers);
        numbers[14] = -1;
        numbers[39] = 1;
        told(x, 0, 0, Check.NONE, numbers);
        x.visit(2, 1);
        Check.sheetOf(x, 0, 32, new int[40]);
        for (int i = 0; i < 40; i++) {
            x.write(0, i, x.ahead(0, 1, i));
        }
        c.due("25: as it will be", x.kinds(0, 0) & 1, 1);
        x.write(0, 39, x.ahead(0, 1, 39) + 1);
        c.due("25: up to the last number", x.kinds(0, 0) & 1, 0);
    }

    private static void findings() {
        SundayVisits x = Check.homeOf(0, 0);
        Check.sheetOf(x, 3, 8, 0);
        for (int s : new int[] {-1, 4, Integer.MIN_VALUE, Integer.MAX_VALUE}) {
            c.due("23: fits(" + s + ", 0)", x.fits(s, 0), Check.BEYOND);
            c.due("24: mood(" + s + ", 0)", x.mood(s, 0), Check.BEYOND);
            c.due("25: kinds(" + s + ", 0)", x.kinds(s, 0), Check.BEYOND);
        }
        for (int r : new int[] {0, 2}) {
            c.due("23: MISSING goes first", x.fits(0, r), Check.MISSING);
            c.due("24: MISSING goes first", x.mood(0, r), Check.MISSING);
            c.due("25: MISSING goes first", x.kinds(0, r), Check.MISSING);
        }
        for (int r : new int[] {-1, 2, Integer.MIN_VALUE, Integer.MAX_VALUE}) {
            c.due("23: fits(3, " + r + ")", x.fits(3, r), Check.BEYOND);
            c.due("24: mood(3, " + r + ")", x.mood(3, r), Check.BEYOND);
            c.due("25: kinds(3, " + r + ")", x.kinds(3, r), Check.BEYOND);
        }
        c.due("43: BEYOND", x.status(0), 24);
        c.due("43: MISSING", x.status(5), 6);
    }

    private static void nothingChanges() {
        SundayVisits x = Check.homeOf(0, 1, 2, 3, 4, 5, 6);
        x.visit(0, 21);
        Check.sheetOf(x, 0, 8, -1, 0, 0, -1, 0);
        String before = Check.seen(x);
        x.fits(0, 3);
        x.mood(0, 3);
        x.kinds(0, 3);
        c.due("23 to 25: nothing changes", before.equals(Check.seen(x)) ? 1 : 0, 1);
    }
}
