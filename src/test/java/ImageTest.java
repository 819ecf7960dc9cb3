/** Promises 39 to 43: images, counts, status. */
public final class ImageTest {
    private static final Check c = new Check();

    public static void main(String[] args) {
        keeping();
        tapeAndSheetsStay();
        latestImage();
        tearing();
        counts();
        status();
        c.end();
    }

    private static SundayVisits busyHome() {
        SundayVisits x = Check.homeOf(0, 1, 2, 3);
        x.visit(0, 5);
        x.visit(5, 2);
        x.set(3, 7);
        x.change(3, 2, 0);
        x.hold(4, 2);
        x.go(3);
        x.seed(99);
        return x;
    }

    private static void keeping() {
        SundayVisits x = busyHome();
        String before = Check.seen(x);
        c.due("39: image", x.image(), 1);
        c.due("39: nothing changes", before.equals(Check.seen(x)) ? 1 : 0, 1);
        x.set(0, 1);
        x.set(1, 1);
        x.set(2, 2);
        x.visit(1, 255);
        x.resident(6);
        x.change(0, 0, 4);
        x.change(1, 1, 3);
        x.change(2, 2, 1);
        x.change(3, 3, 88);
        x.change(3, 4, 77);
        x.hold(4, -1);
        x.hold(5, 4);
        x.change(4, 4, 66);
        x.come(7);
        c.due("40: undo tells the sunday", x.undo(), 3);
        c.due("40: all as it was", before.equals(Check.seen(x)) ? 1 : 0, 1);
        c.due("40: the spot", x.as(4, 0), 2);
        c.due("40: the other spot", x.as(5, 0), Check.MISSING);
        x.go(9);
        c.due("40: it stays kept", x.undo(), 3);
        c.due("40: all as it was", before.equals(Check.seen(x)) ? 1 : 0, 1);
        c.due("40: a new one begins as any", x.resident(0), 4);
        int[] facts = {0, 50, -1, 0, 0};
        for (int what = 0; what < 5; what++) {
            c.due("40: of(4, " + what + ")", x.of(4, what), facts[what]);
        }
    }

    private static void tapeAndSheetsStay() {
        SundayVisits x = Check.homeOf(0);
        x.feed(0, 3);
        Check.sheetOf(x, 0, 8, 50);
        x.image();
        x.feed(0, 2);
        x.write(0, 0, 49);
        x.sheet(1, 16, 2);
        x.undo();
        c.due("40: the tape stays", x.count(5), 5);
        c.due("40: the sheet stays", x.judge(0), 1);
        c.due("40: the other sheet stays", x.judge(1), 1);
    }

    private static void latestImage() {
        SundayVisits x = Check.homeOf(0);
        x.image();
        x.go(1);
        x.image();
        x.go(1);
        c.due("40: the latest", x.undo(), 1);
        c.due("40: the latest stays", x.undo(), 1);
        SundayVisits y = new SundayVisits();
        y.image();
        y.resident(1);
        c.due("40: undo", y.undo(), 0);
        c.due("40: nobody there", y.count(1), 0);
    }

    private static void tearing() {
        SundayVisits x = Check.homeOf(0);
        c.due("40: nothing is kept", x.undo(), Check.NONE);
        c.due("41: nothing to tear", x.tear(), 0);
        x.image();
        x.image();
        x.go(1);
        c.due("41: tear", x.tear(), 1);
        c.due("41: torn", x.tear(), 0);
        c.due("40: nothing is kept", x.undo(), Check.NONE);
        c.due("40: nothing changed", x.now(0), 1);
        c.due("43: NONE", x.status(3), 2);
    }

    private static void counts() {
        SundayVisits x = Check.homeOf(0, 1, 2);
        x.change(0, 1, 60);
        x.change(1, 1, 59);
        x.change(2, 1, 99);
        x.change(0, 4, 9999);
        x.change(1, 4, 9999);
        x.change(2, 4, 3);
        x.feed(0, 4);
        x.seed(-3);
        x.hold(0, 0);
        x.hold(9, 0);
        x.hold(5, 2);
        int[] due = {0, 3, 218, 20001, 2, 4, -3, 3};
        for (int what = 0; what < 8; what++) {
            c.due("42: count(" + what + ")", x.count(what), due[what]);
        }
        x.go(5);
        c.due("42: the sunday", x.count(0), 5);
        for (int what : new int[] {-1, 8, Integer.MIN_VALUE, Integer.MAX_VALUE}) {
            c.due("42: count(" + what + ")", x.count(what), Check.BEYOND);
        }
        c.due("43: all told", x.status(0), 4);
        SundayVisits y = Check.homeOf(0, 1, 2, 3, 4, 5, 6, 0);
        for (int r = 0; r < 8; r++) {
            y.change(r, 1, 59 + r);
            y.change(r, 4, 9000 + r);
        }
        int[] eight = {0, 8, 500, 72028, 7};
        for (int what = 0; what < 5; what++) {
            c.due("42: count(" + what + ") of eight", y.count(what), eight[what]);
        }
    }

    private static void status() {
        SundayVisits x = new SundayVisits();
        x.image();
        x.home(9);
        x.home(9);
        for (int k = 0; k < 30; k++) {
            x.feed(0, 4);
        }
        x.feed(0, 1);
        x.resident(0);
        x.hold(0, 0);
        x.as(0, 1);
        x.as(0, 2);
        x.as(0, 3);
        x.sheet(0, 8, -1);
        x.tear();
        x.undo();
        x.undo();
        x.judge(0);
        int[] due = {2, 1, 3, 2, 0, 1, 1};
        for (int which = 0; which < 7; which++) {
            c.due("43: status(" + which + ")", x.status(which), due[which]);
        }
        c.due("43: all", x.status(-1), 10);
        c.due("43: BEYOND", x.status(7), Check.BEYOND);
        c.due("43: counted from then on", x.status(0), 3);
        c.due("43: BEYOND", x.status(-2), Check.BEYOND);
        c.due("43: BEYOND", x.status(Integer.MIN_VALUE), Check.BEYOND);
        c.due("43: BEYOND", x.status(Integer.MAX_VALUE), Check.BEYOND);
        c.due("43: counted from then on", x.status(-1), 14);
        x.image();
        x.home(9);
        x.undo();
        c.due("43: undo takes none back", x.status(-1), 15);
        x.text();
        x.go(1);
        c.due("43: a fault is no finding", x.status(-1), 15);
    }
}
