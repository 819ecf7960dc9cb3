/** Promises 29 to 31: THE TAPE and its TEXTS. */
public final class TextTest {
    private static final Check c = new Check();

    public static void main(String[] args) {
        feeding();
        feedFull();
        byteOrder();
        residents();
        homes();
        blanksAndZeros();
        faultsOfForm();
        faultsOfNumbers();
        faultsOfResidents();
        faultsOfSigns();
        ninthOne();
        nothingChangesWithFault();
        itemByItem();
        c.end();
    }

    private static void feeding() {
        SundayVisits x = new SundayVisits();
        c.due("29: one byte", x.feed(-1, 1), 1);
        c.due("29: two", x.feed(0, 2), 3);
        c.due("29: three", x.feed(7, 3), 6);
        c.due("29: four", x.feed(7, 4), 10);
        for (int n : new int[] {0, -1, 5, Integer.MIN_VALUE, Integer.MAX_VALUE}) {
            c.due("29: feed(0, " + n + ")", x.feed(0, n), Check.BEYOND);
        }
        c.due("42: bytes of the tape", x.count(5), 10);
        c.due("30: wipe", x.wipe(), 10);
        c.due("30: wiped", x.count(5), 0);
        c.due("30: wipe", x.wipe(), 0);
        c.due("43: BEYOND", x.status(0), 5);
    }

    private static void feedFull() {
        SundayVisits x = new SundayVisits();
        for (int k = 1; k <= 29; k++) {
            c.due("29: feed", x.feed(0x20202020, 4), 4 * k);
        }
        c.due("29: two more", x.feed(0x2020, 2), 118);
        c.due("29: four are too many", x.feed(0, 4), Check.FULL);
        c.due("29: three are too many", x.feed(0, 3), Check.FULL);
        c.due("29: nothing changed", x.count(5), 118);
        c.due("29: two fit", x.feed(0x2020, 2), 120);
        c.due("29: one is too many", x.feed(0, 1), Check.FULL);
        c.due("29: BEYOND goes first", x.feed(0, 5), Check.BEYOND);
        c.due("43: FULL", x.status(1), 3);
        c.due("31: 120 blanks end too early", x.text(), -121);
        c.due("31: the tape is empty", x.count(5), 0);
    }

    private static void byteOrder() {
        SundayVisits x = new SundayVisits();
        x.feed(('c' << 24) + ('a' << 16) + ('k' << 8) + 'e', 4);
        x.feed(('x' << 16) + (' ' << 8) + '7', 2);
        c.due("29: the highest first, the lowest only", x.text(), 1);
        c.due("31: cake", x.home(1), 7);
        x.feed(('l' << 16) + ('o' << 8) + 'n', 3);
        x.feed(('!' << 8) + 'g', 1);
        x.feed(('x' << 24) + ('x' << 16) + ('1' << 8) + '2', 2);
        c.due("29: parts", x.text(), 1);
        c.due("31: long", x.home(3), 12);
    }

    private static void residents() {
        SundayVisits x = new SundayVisits();
        c.due("31: all kinds", Check.read(x, "resident;lively;sleeper;vague;dreamer;watcher;granny"), 7);
        c.due("31: seven", x.count(1), 7);
        for (int r = 0; r < 7; r++) {
            int[] facts = {r, 50, -1, 0, 0};
            for (int what = 0; what < 5; what++) {
                c.due("31: of(" + r + ", " + what + ")", x.of(r, what), facts[what]);
            }
        }
        c.due("31: one more", Check.read(x, "vague mood 0 friend 6 waits 9999"), 1);
        int[] facts = {3, 0, 6, 9999, 0};
        for (int what = 0; what < 5; what++) {
            c.due("31: of(7, " + what + ")", x.of(7, what), facts[what]);
        }
        SundayVisits y = new SundayVisits();
        c.due("31: some of it", Check.read(y, "lively mood 99;granny friend 0;sleeper waits 3;watcher mood 7 waits 8;"
            + "dreamer friend 3 waits 1"), 5);
        int[][] due = {{1, 99, -1, 0}, {6, 50, 0, 0}, {2, 50, -1, 3}, {5, 7, -1, 8}, {4, 50, 3, 1}};
        for (int r = 0; r < 5; r++) {
            for (int what = 0; what < 4; what++) {
                c.due("31: of(" + r + ", " + what + ")", y.of(r, what), due[r][what]);
            }
        }
    }

    private static void homes() {
        SundayVisits x = new SundayVisits();
        c.due("31: a home", Check.read(x, "chairs 20;cake 0;volunteers 8;long 1;visits 0 255;visits 5 0;visits 4 7"), 7);
        int[] settings = {20, 0, 8, 1};
        for (int what = 0; what < 4; what++) {
            c.due("31: home(" + what + ")", x.home(what), settings[what]);
        }
        c.due("31: visits", x.visits(0), 255);
        c.due("31: visits", x.visits(4), 7);
        c.due("31: the other edges", Check.read(x, "chairs 0;cake 20;volunteers 0;long 12;visits 5 1;visits 0 0"), 6);
        int[] then = {0, 20, 0, 12};
        for (int what = 0; what < 4; what++) {
            c.due("31: home(" + what + ")", x.home(what), then[what]);
        }
        c.due("31: visits", x.visits(5), 1);
        c.due("31: visits", x.visits(0), 0);
        c.due("31: the same twice", Check.read(x, "long 3;long 4"), 2);
        c.due("31: the latest counts", x.home(3), 4);
    }

    private static void blanksAndZeros() {
        SundayVisits x = new SundayVisits();
        c.due("31: none between", Check.read(x, "dreamer;vague mood09friend00waits0010;long012;visits05 0255"), 4);
        int[] facts = {3, 9, 0, 10};
        for (int what = 0; what < 4; what++) {
            c.due("31: of(1, " + what + ")", x.of(1, what), facts[what]);
        }
        c.due("31: long", x.home(3), 12);
        c.due("31: visits", x.visits(5), 255);
        c.due("31: many between", Check.read(x, "  sleeper   mood  3  ;   cake    4   "), 2);
        c.due("31: mood", x.of(2, 1), 3);
        c.due("31: cake", x.home(1), 4);
        c.due("31: many zeros", Check.read(x, "chairs 00000000000000000000017"), 1);
        c.due("31: chairs", x.home(0), 17);
    }

    private static void fault(String text, int place) {
        SundayVisits x = new SundayVisits();
        c.due("31: '" + text + "'", Check.read(x, text), -1 - place);
        c.due("31: the tape is empty behind '" + text + "'", x.count(5), 0);
        c.due("31: no finding for '" + text + "'", x.status(-1), 0);
    }

    private static void faultsOfForm() {
        fault("", 0);
        fault("   ", 3);
        fault("uncle", 0);
        fault("  uncle 3", 2);
        fault("vagues", 0);
        fault("vagu", 0);
        fault("livelymood 3", 0);
        fault("xong 3", 0);
        fault("lonx 3", 0);
        fault("longz 3", 0);
        fault("longa 3", 0);
        fault("a", 0);
        fault("z", 0);
        fault("vague zmood 3", 6);
        fault("mood 3", 0);
        fault("friend 0", 0);
        fault("waits 0", 0);
        fault("3", 0);
        fault(";", 0);
        fault(";long 3", 0);
        fault("long 3;", 7);
        fault("long 3; ", 8);
        fault("long 3;;long 4", 7);
        fault("long 3 3", 7);
        fault("long 3 cake 3", 7);
        fault("long", 4);
        fault("long ", 5);
        fault("long;", 4);
        fault("long cake", 5);
        fault("vague vague", 6);
        fault("vague 3", 6);
        fault("vague;uncle", 6);
        fault("long 3;uncle", 7);
    }

    private static void faultsOfNumbers() {
        fault("chairs 21", 7);
        fault("cake 21", 5);
        fault("volunteers 9", 11);
        fault("long 0", 5);
        fault("long 13", 5);
        fault("visits", 6);
        fault("visits 6 0", 7);
        fault("visits 0", 8);
        fault("visits 0;", 8);
        fault("visits 0 256", 9);
        fault("visits 0 10000", 9);
        fault("visits 0 1 2", 11);
        fault("visits 33", 7);
        fault("chairs 4294967300", 7);
        fault("chairs 18446744073709551620", 7);
        fault("long 3x", 6);
        fault("long -1", 5);
        fault("long +1", 5);
    }

    private static void faultsOfResidents() {
        fault("vague mood", 10);
        fault("vague mood;", 10);
        fault("vague mood 100", 11);
        fault("vague mood friend", 11);
        fault("vague friend 0", 13);
        fault("vague;vague friend 1", 19);
        fault("vague;vague friend 2", 19);
        fault("vague friend", 12);
        fault("vague waits 10000", 12);
        fault("vague waits 99990", 12);
        fault("vague waits", 11);
        fault("vague waits 1 mood 1", 14);
        fault("vague;vague friend 0 mood 1", 21);
        fault("vague;vague waits 0 friend 0", 20);
        fault("vague mood 1 mood 2", 13);
        fault("vague mood 1 2", 13);
        fault("vague came 1", 6);
    }

    private static void faultsOfSigns() {
        fault("Long 3", 0);
        fault("lonG 3", 0);
        fault("long\t3", 4);
        fault("long 3\n", 6);
        fault("long 3,cake 3", 6);
        fault("long 3.", 6);
        fault("long`3", 4);
        fault("long{3", 4);
        fault("long/3", 4);
        fault("long:3", 4);
        fault("long 3" + (char) 0, 6);
        fault("long 3" + (char) 255, 6);
        fault("long 3;" + (char) 236, 7);
        fault("long 3" + (char) 160, 6);
    }

    private static void ninthOne() {
        fault("granny;granny;granny;granny;granny;granny;granny;granny;granny", 56);
        fault("granny;granny;granny;granny;granny;granny;granny;granny; granny mood 100", 57);
        fault("granny;granny;granny;granny;granny;granny;granny;granny;uncle", 56);
        SundayVisits x = Check.homeOf(0, 0, 0, 0, 0, 0, 0);
        c.due("31: an eighth", Check.read(x, "cake 3;granny"), 2);
        c.due("31: a ninth", Check.read(x, "cake 4;granny"), -8);
        c.due("31: eight", x.count(1), 8);
        c.due("31: nothing changed", x.home(1), 3);
    }

    private static void nothingChangesWithFault() {
        SundayVisits x = Check.homeOf(0, 1);
        x.visit(3, 9);
        String before = Check.seen(x);
        c.due("31: a fault at the end", Check.read(x, "granny mood 3;long 9;visits 3 1;chairs 1;cake 1;volunteers 0;x"), -62);
        c.due("31: nothing changed", before.equals(Check.seen(x)) ? 1 : 0, 1);
        c.due("31: no finding", x.status(-1), 0);
    }

    private static void itemByItem() {
        SundayVisits x = Check.homeOf(0);
        c.due("31: friends of before and of the text", Check.read(x, "vague friend 0;granny friend 1"), 2);
        c.due("31: friend", x.of(1, 2), 0);
        c.due("31: friend", x.of(2, 2), 1);
        x.go(1);
        x.hold(2, 1);
        x.seed(5);
        c.due("31: a text", Check.read(x, "long 2"), 1);
        c.due("31: the sunday stays", x.now(0), 1);
        c.due("31: the spots stay", x.as(2, 0), 1);
        c.due("31: z stays", x.count(6), 5);
    }
}
