/** Promises 32 to 38: spots and sheets. */
public final class SheetTest {
    private static final Check c = new Check();

    public static void main(String[] args) {
        spots();
        spotsBeyond();
        kindsUnder();
        sheets();
        sheetFindings();
        writing();
        writeFindings();
        copying();
        copyOverlapping();
        copyFindings();
        loading();
        judging();
        sheetLacking();
        c.end();
    }

    private static void spots() {
        SundayVisits x = Check.homeOf(Check.GRANNY, Check.VAGUE);
        c.due("32: hold", x.hold(0, 1), 1);
        c.due("32: hold", x.hold(9, 0), 1);
        c.due("33: as", x.as(0, 3), 1);
        c.due("33: as", x.as(9, 6), 0);
        c.due("42: spots that hold something", x.count(7), 2);
        c.due("32: another one", x.hold(0, 0), 1);
        c.due("33: as", x.as(0, 6), 0);
        c.due("32: nothing", x.hold(0, -1), 1);
        c.due("33: nothing", x.as(0, 0), Check.MISSING);
        c.due("32: nothing again", x.hold(0, -1), 1);
        c.due("42: spots that hold something", x.count(7), 1);
        x.change(0, 0, Check.SLEEPER);
        c.due("33: as it is now", x.as(9, 2), 0);
        c.due("33: as it is now", x.as(9, 6), Check.KIND);
    }

    private static void spotsBeyond() {
        SundayVisits x = Check.homeOf(0, 1);
        int[][] wrong = {{-1, 0}, {10, 0}, {0, -2}, {0, 2}, {Integer.MAX_VALUE, 0}, {0, Integer.MIN_VALUE}};
        for (int[] w : wrong) {
            c.due("32: hold(" + w[0] + ", " + w[1] + ")", x.hold(w[0], w[1]), Check.BEYOND);
        }
        c.due("32: nothing is held", x.count(7), 0);
        int[][] wrongAs = {{-1, 0}, {10, 0}, {0, -1}, {0, 7}, {Integer.MIN_VALUE, 0}, {0, Integer.MAX_VALUE}};
        for (int[] w : wrongAs) {
            c.due("33: as(" + w[0] + ", " + w[1] + ")", x.as(w[0], w[1]), Check.BEYOND);
        }
        x.as(0, 0);
        x.hold(0, 0);
        x.as(0, 1);
        c.due("43: BEYOND", x.status(0), 12);
        c.due("43: MISSING", x.status(5), 1);
        c.due("43: KIND", x.status(2), 1);
    }

    private static void kindsUnder() {
        int[] above = {1, 1 + 2, 1 + 4, 1 + 4 + 8, 1 + 4 + 8 + 16, 1 + 32, 1 + 2 + 64};
        SundayVisits x = Check.homeOf(0, 1, 2, 3, 4, 5, 6);
        for (int kind = 0; kind < 7; kind++) {
            x.hold(kind, kind);
            for (int as = 0; as < 7; as++) {
                boolean due = (above[kind] >> as & 1) == 1;
                c.due("33: kind " + kind + " as " + as, x.as(kind, as), due ? kind : Check.KIND);
            }
        }
    }

    private static void sheets() {
        SundayVisits x = new SundayVisits();
        c.due("34: 8 bits", x.sheet(0, 8, 40), 40);
        c.due("34: 16 bits", x.sheet(1, 16, 1), 1);
        c.due("34: 32 bits", x.sheet(2, 32, 0), 0);
        c.due("34: no number", x.write(2, 0, 1), Check.BEYOND);
        c.due("34: not missing", x.judge(2), 0);
        x.write(0, 5, 7);
        c.due("34: anew", x.sheet(0, 8, 6), 6);
        Check.sheetOf(x, 3, 8, 0, 0, 0, 0, 0, 0);
        c.due("34: all 0", x.load(0), 6);
        c.due("34: all 0", x.visits(5), 0);
        c.due("34: bits 0", x.sheet(0, 0, 40), 0);
        c.due("34: missing", x.judge(0), Check.MISSING);
        c.due("34: bits 0", x.sheet(0, 0, 0), 0);
        c.due("34: shorter", x.sheet(1, 32, 2), 2);
        c.due("34: longer", x.sheet(1, 8, 3), 3);
        c.due("34: the last", x.write(1, 2, 1), 1);
        c.due("34: behind the last", x.write(1, 3, 1), Check.BEYOND);
    }

    private static void sheetFindings() {
        SundayVisits x = new SundayVisits();
        x.sheet(0, 8, 3);
        int[][] wrong = {{-1, 8, 1}, {4, 8, 1}, {0, 1, 1}, {0, -8, 1}, {0, 24, 1}, {0, 64, 1}, {0, 7, -1}, {4, 8, -1},
            {0, 8, 41}, {0, 16, 41}, {0, 32, Integer.MAX_VALUE}, {0, 0, 41}, {Integer.MIN_VALUE, 8, 1},
            {0, Integer.MAX_VALUE, 1}};
        for (int[] w : wrong) {
            c.due("34: sheet(" + w[0] + ", " + w[1] + ", " + w[2] + ")", x.sheet(w[0], w[1], w[2]), Check.BEYOND);
        }
        for (int bits : new int[] {0, 8, 16, 32}) {
            c.due("34: n below 0 with bits " + bits, x.sheet(0, bits, -1), Check.SIZE);
            c.due("34: n far below 0 with bits " + bits, x.sheet(0, bits, Integer.MIN_VALUE), Check.SIZE);
        }
        c.due("34: nothing changed", x.write(0, 2, 1), 1);
        c.due("43: SIZE", x.status(6), 8);
        c.due("43: BEYOND", x.status(0), wrong.length);
    }

    /** What a number of a sheet is, seen by the kinds that a resident with that mood could be of. */
    private static boolean holds(SundayVisits x, int s, int mood) {
        x.change(0, 1, mood);
        return x.judge(s) == 0;
    }

    private static void writing() {
        SundayVisits x = Check.homeOf(0);
        x.sheet(0, 8, 1);
        x.sheet(1, 16, 1);
        x.sheet(2, 32, 1);
        for (int s = 0; s < 3; s++) {
            c.due("35: write", x.write(s, 0, 99), 1);
            c.due("35: the number", holds(x, s, 99) ? 1 : 0, 1);
            x.write(s, 0, 65536 + 55);
            c.due("35: its lowest 8 or 16 bits", holds(x, s, 55) ? 1 : 0, s < 2 ? 1 : 0);
            x.write(s, 0, 256 + 54);
            c.due("35: its lowest 8 bits", holds(x, s, 54) ? 1 : 0, s < 1 ? 1 : 0);
            x.write(s, 0, 255);
            c.due("35: 255", x.fits(s, 0), s == 0 ? 100 : 0);
            x.write(s, 0, 65535);
            c.due("35: 65535", x.fits(s, 0), s < 2 ? 100 : 0);
            x.write(s, 0, -1);
            c.due("35: -1", x.fits(s, 0), 100);
            x.write(s, 0, Integer.MIN_VALUE + 1);
            c.due("35: far below", x.mood(s, 0), s < 2 ? 60 : Check.NONE);
        }
        x.write(0, 0, 128);
        c.due("35: 128 in 8 bits is below 0", x.load(0), 0);
        x.write(1, 0, 128);
        c.due("35: 128 in 16 bits", x.load(1), 1);
        x.write(0, 0, 127);
        c.due("35: 127 in 8 bits", x.load(0), 1);
        c.due("35: 127 in 8 bits", x.visits(0), 127);
        x.write(1, 0, 32768);
        c.due("35: 32768 in 16 bits", x.load(1), 0);
    }

    private static void writeFindings() {
        SundayVisits x = new SundayVisits();
        x.sheet(0, 8, 3);
        for (int s : new int[] {-1, 4, Integer.MIN_VALUE, Integer.MAX_VALUE}) {
            c.due("35: write(" + s + ", 0, 0)", x.write(s, 0, 0), Check.BEYOND);
        }
        c.due("35: MISSING", x.write(1, 0, 0), Check.MISSING);
        c.due("35: MISSING goes first", x.write(1, -1, 0), Check.MISSING);
        for (int i : new int[] {-1, 3, 40, Integer.MIN_VALUE, Integer.MAX_VALUE}) {
            c.due("35: write(0, " + i + ", 0)", x.write(0, i, 0), Check.BEYOND);
        }
    }

    private static void due(String what, SundayVisits x, int s, int... visits) {
        for (int i = 0; i < 6; i++) {
            x.visit(i, 0);
        }
        x.load(s);
        for (int i = 0; i < visits.length; i++) {
            c.due(what + ", number " + i, x.visits(i), visits[i]);
        }
    }

    private static void copying() {
        SundayVisits x = new SundayVisits();
        Check.sheetOf(x, 0, 8, 1, 2, 3, 4, 5, 6);
        Check.sheetOf(x, 3, 8, 11, 12, 13, 14);
        c.due("36: copy", x.copy(0, 2, 3, 1, 3), 3);
        due("36: the target", x, 3, 11, 3, 4, 5);
        due("36: the source", x, 0, 1, 2, 3, 4, 5, 6);
        c.due("36: all of it", x.copy(3, 0, 0, 2, 4), 4);
        due("36: up to the end", x, 0, 1, 2, 11, 3, 4, 5);
        c.due("36: none", x.copy(0, 0, 3, 0, 0), 0);
        c.due("36: none at the ends", x.copy(0, 6, 3, 4, 0), 0);
        due("36: nothing changed", x, 3, 11, 3, 4, 5);
        Check.sheetOf(x, 1, 32, 200, 300);
        Check.sheetOf(x, 2, 32, 0, 0);
        c.due("36: 32 bits", x.copy(1, 0, 2, 0, 2), 2);
        due("36: 32 bits", x, 2, 200, 0);
    }

    private static void copyOverlapping() {
        SundayVisits x = new SundayVisits();
        Check.sheetOf(x, 2, 16, 1, 2, 3, 4, 5, 6);
        c.due("36: up", x.copy(2, 0, 2, 2, 4), 4);
        due("36: up", x, 2, 1, 2, 1, 2, 3, 4);
        Check.sheetOf(x, 2, 16, 1, 2, 3, 4, 5, 6);
        c.due("36: down", x.copy(2, 1, 2, 0, 5), 5);
        due("36: down", x, 2, 2, 3, 4, 5, 6, 6);
    }

    private static void copyFindings() {
        SundayVisits x = new SundayVisits();
        Check.sheetOf(x, 0, 8, 1, 2, 3);
        Check.sheetOf(x, 1, 8, 4, 5);
        Check.sheetOf(x, 2, 16, 4, 5);
        int[][] wrong = {{-1, 0, 0, 0, 1}, {4, 0, 0, 0, 1}, {0, 0, -1, 0, 1}, {0, 0, 4, 0, 1}, {3, 0, 4, 0, 1},
            {4, 0, 3, 0, 1}, {0, -1, 1, 0, 1}, {0, 0, 1, -1, 1}, {0, 0, 1, 0, -1}, {0, 0, 1, 0, 3}, {0, 2, 1, 0, 2},
            {1, 0, 0, 2, 2}, {0, 4, 1, 0, 0}, {0, 0, 1, 3, 0}, {0, Integer.MAX_VALUE, 1, 0, 1},
            {0, 1, 1, 0, Integer.MAX_VALUE}, {0, 0, 1, Integer.MAX_VALUE, Integer.MAX_VALUE},
            {0, Integer.MIN_VALUE, 1, 0, Integer.MIN_VALUE}};
        for (int[] w : wrong) {
            c.due("36: copy " + java.util.Arrays.toString(w), x.copy(w[0], w[1], w[2], w[3], w[4]), Check.BEYOND);
        }
        c.due("36: the source is missing", x.copy(3, 0, 0, 0, 1), Check.MISSING);
        c.due("36: the target is missing", x.copy(0, 0, 3, 0, 1), Check.MISSING);
        c.due("36: MISSING goes ahead of KIND and BEYOND", x.copy(3, -1, 2, 0, 99), Check.MISSING);
        c.due("36: other bits", x.copy(0, 0, 2, 0, 1), Check.KIND);
        c.due("36: other bits", x.copy(2, 0, 0, 0, 0), Check.KIND);
        c.due("36: KIND goes ahead of BEYOND", x.copy(0, -1, 2, 0, 1), Check.KIND);
        due("36: nothing changed", x, 0, 1, 2, 3);
        due("36: nothing changed", x, 1, 4, 5);
        c.due("43: BEYOND", x.status(0), wrong.length);
    }

    private static void loading() {
        SundayVisits x = new SundayVisits();
        for (int i = 0; i < 6; i++) {
            x.visit(i, 100 + i);
        }
        Check.sheetOf(x, 0, 16, 255, 0, 256, 3);
        c.due("37: up to 256", x.load(0), 2);
        int[] first = {255, 0, 102, 103, 104, 105};
        for (int i = 0; i < 6; i++) {
            c.due("37: place " + i, x.visits(i), first[i]);
        }
        Check.sheetOf(x, 1, 32, 1, 2, 3, 4, 5, 6, 7, 8);
        c.due("37: six places", x.load(1), 6);
        for (int i = 0; i < 6; i++) {
            c.due("37: place " + i, x.visits(i), i + 1);
        }
        Check.sheetOf(x, 2, 32, -1, 2);
        c.due("37: none", x.load(2), 0);
        c.due("37: place 0", x.visits(0), 1);
        Check.sheetOf(x, 2, 32);
        c.due("37: an empty one", x.load(2), 0);
    }

    private static void judging() {
        SundayVisits x = Check.homeOf(0, 1, 2);
        x.change(0, 1, 0);
        x.change(1, 1, 99);
        Check.sheetOf(x, 0, 8, 0, 99, 50);
        c.due("38: all so", x.judge(0), 0);
        Check.sheetOf(x, 0, 8, 0, 99);
        c.due("38: fewer", x.judge(0), 0);
        Check.sheetOf(x, 0, 8);
        c.due("38: none", x.judge(0), 0);
        Check.sheetOf(x, 0, 8, 0, 99, 50, 0, 0);
        c.due("38: one that isn't there", x.judge(0), 4);
        Check.sheetOf(x, 0, 8, 1, 99, 50);
        c.due("38: the first", x.judge(0), 1);
        Check.sheetOf(x, 0, 8, 0, 98, 51);
        c.due("38: the second", x.judge(0), 2);
        Check.sheetOf(x, 0, 8, 0, -1);
        c.due("38: -1 is no mood", x.judge(0), 2);
        Check.sheetOf(x, 0, 8, new int[40]);
        x.change(1, 1, 0);
        x.change(2, 1, 0);
        c.due("38: a long one", x.judge(0), 4);
        for (int r = 3; r < 8; r++) {
            x.resident(0);
            x.change(r, 1, 0);
        }
        c.due("38: a long one for eight", x.judge(0), 9);
        c.due("38: no finding", x.status(-1), 0);
    }

    private static void sheetLacking() {
        SundayVisits x = Check.homeOf(0);
        for (int s : new int[] {-1, 4, Integer.MIN_VALUE, Integer.MAX_VALUE}) {
            c.due("37: load(" + s + ")", x.load(s), Check.BEYOND);
            c.due("38: judge(" + s + ")", x.judge(s), Check.BEYOND);
        }
        for (int s = 0; s < 4; s++) {
            c.due("37: load(" + s + ")", x.load(s), Check.MISSING);
            c.due("38: judge(" + s + ")", x.judge(s), Check.MISSING);
        }
        c.due("43: BEYOND", x.status(0), 8);
        c.due("43: MISSING", x.status(5), 8);
    }
}
