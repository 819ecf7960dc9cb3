/**
 * "Each act tells its findings in the order in which they are asked (that of its words); one that answers a finding
 * changes nothing but status()": each refused call on an object of which all is in use, beside an untouched twin.
 */
public final class RefusedTest {
    private static final Check c = new Check();

    /** Three residents, an image of an earlier state, a TEXT on THE TAPE, sheets 0 to 2; sheet 3 is MISSING. */
    private static final String BUSY = """
        people(0, 3, 6)
        change(1, 2, 0)
        list(1, 2, 4, 7, 0, 5)
        image()
        change(0, 1, 70)
        change(2, 3, 9)
        change(2, 4, 8)
        set(0, 7)
        set(1, 3)
        set(2, 2)
        set(3, 5)
        visit(4, 6)
        hold(4, 1)
        hold(9, 2)
        seed(-77)
        go(2)
        put(0, 8, 1, 2, 3)
        put(1, 16, 4, 200)
        put(2, 8, 0, -1, 1, 0)
        feed(0x6c6f6e67, 4)
        feed(0x2037, 2)
        """;

    /** The same with eight residents and 120 bytes on THE TAPE. */
    private static final String CROWDED = BUSY + """
        people(1, 2, 4, 5, 3)
        28 x feed(0x20202020, 4)
        feed(0x2020, 2)
        """;

    private static final String[] HOME_ROWS = {
        "set(-1, 1) BEYOND", "set(4, 1) BEYOND", "set(0, -1) BEYOND", "set(0, 21) BEYOND", "set(1, -1) BEYOND",
        "set(1, 21) BEYOND", "set(2, -1) BEYOND", "set(2, 9) BEYOND", "set(3, 0) BEYOND", "set(3, 13) BEYOND",
        "set(MIN, 1) BEYOND", "set(MAX, 1) BEYOND", "set(0, MIN) BEYOND", "set(3, MAX) BEYOND",
        "home(-1) BEYOND", "home(4) BEYOND", "home(MIN) BEYOND", "home(MAX) BEYOND",
        "visit(-1, 1) BEYOND", "visit(6, 1) BEYOND", "visit(0, -1) BEYOND", "visit(5, 256) BEYOND",
        "visit(MAX, 1) BEYOND", "visit(0, MIN) BEYOND",
        "visits(-1) BEYOND", "visits(6) BEYOND", "visits(MIN) BEYOND", "visits(MAX) BEYOND",
        "resident(-1) BEYOND", "resident(7) BEYOND", "resident(MIN) BEYOND", "resident(MAX) BEYOND",
        "of(-1, 0) BEYOND", "of(3, 0) BEYOND", "of(0, -1) BEYOND", "of(2, 9) BEYOND", "of(MAX, 0) BEYOND",
        "of(0, MIN) BEYOND",
        "change(-1, 1, 9) BEYOND", "change(3, 1, 9) BEYOND", "change(0, -1, 1) BEYOND", "change(0, 5, 1) BEYOND",
        "change(0, 0, -1) BEYOND", "change(0, 0, 7) BEYOND", "change(0, 1, -1) BEYOND", "change(0, 1, 100) BEYOND",
        "change(0, 2, -2) BEYOND", "change(0, 2, 3) BEYOND", "change(0, 2, 0) BEYOND", "change(2, 2, 2) BEYOND",
        "change(0, 3, -1) BEYOND", "change(0, 3, 10000) BEYOND", "change(0, 4, -1) BEYOND",
        "change(0, 4, 10000) BEYOND", "change(MIN, 1, 9) BEYOND", "change(0, MAX, 1) BEYOND",
        "change(0, 2, MIN) BEYOND", "change(0, 3, MAX) BEYOND"};

    private static final String[] SUNDAY_ROWS = {
        "go(0) BEYOND", "go(61) BEYOND", "go(-1) BEYOND", "go(MIN) BEYOND", "go(MAX) BEYOND",
        "now(-1) BEYOND", "now(8) BEYOND", "now(MIN) BEYOND", "now(MAX) BEYOND",
        "ahead(-1, 1, 1) BEYOND", "ahead(3, 1, 1) BEYOND", "ahead(0, 0, 1) BEYOND", "ahead(0, 2, 1) BEYOND",
        "ahead(0, 5, 1) BEYOND", "ahead(0, 1, -1) BEYOND", "ahead(0, 1, 101) BEYOND", "ahead(MIN, 1, 1) BEYOND",
        "ahead(0, MAX, 1) BEYOND", "ahead(0, 3, MAX) BEYOND",
        "glad(-1, 1) BEYOND", "glad(3, 1) BEYOND", "glad(0, -1) BEYOND", "glad(0, 100) BEYOND", "glad(MAX, 1) BEYOND",
        "glad(0, MIN) BEYOND", "glad(-1, 100) BEYOND",
        "sad(-1, 1) BEYOND", "sad(3, 1) BEYOND", "sad(0, -1) BEYOND", "sad(0, 100) BEYOND", "sad(MAX, 1) BEYOND",
        "sad(0, MIN) BEYOND", "sad(0, 0) NONE",
        "when(-1, 1) BEYOND", "when(3, 1) BEYOND", "when(0, -1) BEYOND", "when(0, 10000) BEYOND", "when(MIN, 1) BEYOND",
        "when(0, MAX) BEYOND", "when(0, 9999) NONE", "when(3, 9999) BEYOND",
        "come(0) BEYOND", "come(21) BEYOND", "come(-1) BEYOND", "come(MIN) BEYOND", "come(MAX) BEYOND",
        "odds(-1, 1, 0) BEYOND", "odds(3, 1, 0) BEYOND", "odds(0, -1, 0) BEYOND", "odds(0, 8, 0) BEYOND",
        "odds(0, 1, -1) BEYOND", "odds(0, 1, 2) BEYOND", "odds(MIN, 1, 0) BEYOND", "odds(0, MAX, 1) BEYOND",
        "odds(0, 1, MIN) BEYOND"};

    private static final String[] PLAN_ROWS = {
        "longFor(-1) BEYOND", "longFor(41) BEYOND", "longFor(MIN) BEYOND", "longFor(MAX) BEYOND",
        "chairsFor(-1, 1) BEYOND", "chairsFor(10000, 1) BEYOND", "chairsFor(1, -1) BEYOND", "chairsFor(1, 41) BEYOND",
        "chairsFor(MIN, 1) BEYOND", "chairsFor(1, MAX) BEYOND", "chairsFor(9999, 1) NONE", "chairsFor(9999, 41) BEYOND",
        "volunteersFor(-1, 1) BEYOND", "volunteersFor(100, 1) BEYOND", "volunteersFor(1, -1) BEYOND",
        "volunteersFor(1, 41) BEYOND", "volunteersFor(MAX, 1) BEYOND", "volunteersFor(1, MIN) BEYOND",
        "volunteersFor(99, 0) NONE", "volunteersFor(99, -1) BEYOND",
        "comeOn(-1, 1) BEYOND", "comeOn(3, 1) BEYOND", "comeOn(0, -1) BEYOND", "comeOn(0, 41) BEYOND",
        "comeOn(MIN, 1) BEYOND", "comeOn(0, MAX) BEYOND",
        "kindFor(-1, 1) BEYOND", "kindFor(3, 1) BEYOND", "kindFor(0, -1) BEYOND", "kindFor(0, 41) BEYOND",
        "kindFor(MAX, 1) BEYOND", "kindFor(0, MIN) BEYOND",
        "friendFor(-1, 1) BEYOND", "friendFor(3, 1) BEYOND", "friendFor(0, -1) BEYOND", "friendFor(0, 41) BEYOND",
        "friendFor(MIN, 1) BEYOND", "friendFor(0, MAX) BEYOND",
        "away(-1, 1) BEYOND", "away(3, 1) BEYOND", "away(0, -1) BEYOND", "away(0, 21) BEYOND", "away(MAX, 1) BEYOND",
        "away(0, MIN) BEYOND"};

    private static final String[] SHEET_ROWS = {
        "fits(-1, 0) BEYOND", "fits(4, 0) BEYOND", "fits(3, 0) MISSING", "fits(0, -1) BEYOND", "fits(0, 3) BEYOND",
        "fits(3, 3) MISSING", "fits(4, 3) BEYOND", "fits(MIN, 0) BEYOND", "fits(0, MAX) BEYOND",
        "mood(-1, 0) BEYOND", "mood(4, 0) BEYOND", "mood(3, 0) MISSING", "mood(0, -1) BEYOND", "mood(0, 3) BEYOND",
        "mood(3, 3) MISSING", "mood(0, 0) NONE", "mood(MAX, 0) BEYOND", "mood(0, MIN) BEYOND",
        "kinds(-1, 0) BEYOND", "kinds(4, 0) BEYOND", "kinds(3, 0) MISSING", "kinds(0, -1) BEYOND", "kinds(0, 3) BEYOND",
        "kinds(3, 3) MISSING", "kinds(MIN, 0) BEYOND", "kinds(0, MAX) BEYOND",
        "hold(-1, 0) BEYOND", "hold(10, 0) BEYOND", "hold(4, -2) BEYOND", "hold(4, 3) BEYOND", "hold(MAX, 0) BEYOND",
        "hold(4, MIN) BEYOND", "hold(10, -1) BEYOND",
        "as(-1, 0) BEYOND", "as(10, 0) BEYOND", "as(4, -1) BEYOND", "as(4, 7) BEYOND", "as(0, 0) MISSING",
        "as(0, 7) BEYOND", "as(4, 4) KIND", "as(4, 1) KIND", "as(MIN, 0) BEYOND", "as(4, MAX) BEYOND",
        "sheet(-1, 8, 1) BEYOND", "sheet(4, 8, 1) BEYOND", "sheet(0, 7, 1) BEYOND", "sheet(0, 9, 1) BEYOND",
        "sheet(0, -8, 1) BEYOND", "sheet(0, 24, 1) BEYOND", "sheet(0, 64, 1) BEYOND", "sheet(0, 8, -1) SIZE",
        "sheet(0, 16, MIN) SIZE", "sheet(0, 32, -1) SIZE", "sheet(0, 0, -1) SIZE", "sheet(4, 8, -1) BEYOND",
        "sheet(0, 7, -1) BEYOND", "sheet(0, 8, 41) BEYOND", "sheet(0, 32, MAX) BEYOND", "sheet(0, 0, 41) BEYOND",
        "sheet(MIN, 0, 0) BEYOND", "sheet(0, MAX, 0) BEYOND",
        "write(-1, 0, 9) BEYOND", "write(4, 0, 9) BEYOND", "write(3, 0, 9) MISSING", "write(3, -1, 9) MISSING",
        "write(0, -1, 9) BEYOND", "write(0, 3, 9) BEYOND", "write(0, MIN, 9) BEYOND", "write(0, MAX, 9) BEYOND",
        "write(MAX, 0, 9) BEYOND",
        "copy(-1, 0, 0, 0, 1) BEYOND", "copy(4, 0, 0, 0, 1) BEYOND", "copy(0, 0, -1, 0, 1) BEYOND",
        "copy(0, 0, 4, 0, 1) BEYOND", "copy(3, 0, 4, 0, 1) BEYOND", "copy(4, 0, 3, 0, 1) BEYOND",
        "copy(3, 0, 0, 0, 1) MISSING", "copy(0, 0, 3, 0, 1) MISSING", "copy(3, 0, 3, 0, 0) MISSING",
        "copy(3, -1, 1, 0, 9) MISSING", "copy(0, 0, 1, 0, 1) KIND", "copy(1, 0, 0, 0, 0) KIND",
        "copy(0, -1, 1, 9, 9) KIND", "copy(0, -1, 2, 0, 1) BEYOND", "copy(0, 0, 2, -1, 1) BEYOND",
        "copy(0, 0, 2, 0, -1) BEYOND", "copy(0, 0, 2, 0, 4) BEYOND", "copy(0, 1, 2, 0, 3) BEYOND",
        "copy(2, 0, 0, 0, 4) BEYOND", "copy(0, 0, 2, 2, 3) BEYOND", "copy(0, 4, 2, 0, 0) BEYOND",
        "copy(0, 0, 2, 5, 0) BEYOND", "copy(0, MAX, 2, 0, 1) BEYOND", "copy(0, 1, 2, 0, MAX) BEYOND",
        "copy(0, 0, 2, MAX, MAX) BEYOND", "copy(0, MIN, 2, 0, MIN) BEYOND", "copy(MIN, 0, MAX, 0, 0) BEYOND",
        "load(-1) BEYOND", "load(4) BEYOND", "load(3) MISSING", "load(MIN) BEYOND", "load(MAX) BEYOND",
        "judge(-1) BEYOND", "judge(4) BEYOND", "judge(3) MISSING", "judge(MIN) BEYOND", "judge(MAX) BEYOND"};

    private static final String[] OTHER_ROWS = {
        "feed(1, 0) BEYOND", "feed(1, 5) BEYOND", "feed(1, -1) BEYOND", "feed(1, MIN) BEYOND", "feed(1, MAX) BEYOND",
        "count(-1) BEYOND", "count(8) BEYOND", "count(MIN) BEYOND", "count(MAX) BEYOND",
        "status(-2) BEYOND", "status(7) BEYOND", "status(MIN) BEYOND", "status(MAX) BEYOND"};

    private static final String[] CROWDED_ROWS = {
        "resident(0) FULL", "resident(6) FULL", "resident(7) BEYOND", "resident(-1) BEYOND",
        "feed(1, 1) FULL", "feed(1, 4) FULL", "feed(1, 0) BEYOND", "feed(1, 5) BEYOND",
        "of(8, 0) BEYOND", "change(8, 1, 1) BEYOND", "change(0, 2, 8) BEYOND", "hold(0, 8) BEYOND",
        "ahead(8, 1, 0) BEYOND", "odds(8, 0, 0) BEYOND", "fits(0, 8) BEYOND", "friendFor(8, 0) BEYOND"};

    /** What is only asked: nothing changes, status() neither. */
    private static final String[] QUESTIONS = {
        "home(3)", "visits(5)", "of(2, 8)", "now(0)", "now(1)", "now(2)", "now(3)", "now(4)", "now(5)", "now(6)",
        "now(7)", "ahead(1, 1, 100)", "glad(0, 0)", "glad(2, 60)", "sad(0, 99)", "when(0, 0)", "when(1, 3)", "well()",
        "longFor(40)", "chairsFor(0, 40)", "volunteersFor(0, 40)", "comeOn(2, 40)", "kindFor(2, 40)",
        "friendFor(2, 40)", "away(0, 20)", "fits(2, 0)", "kinds(2, 0)", "kinds(0, 1)", "odds(1, 7, 0)",
        "odds(1, 7, 1)", "as(4, 2)", "judge(0)", "count(0)", "count(6)", "status(-1)", "status(6)",
        "copy(0, 3, 2, 4, 0)", "copy(1, 0, 1, 0, 2)"};

    public static void main(String[] args) {
        for (String[] rows : new String[][] {HOME_ROWS, SUNDAY_ROWS, PLAN_ROWS, SHEET_ROWS, OTHER_ROWS}) {
            refused(BUSY, rows);
        }
        refused(CROWDED, CROWDED_ROWS);
        refused("", "undo() NONE", "of(0, 0) BEYOND", "hold(0, 0) BEYOND", "chairsFor(1, 40) NONE", "as(9, 0) MISSING");
        refused("people(0)\nset(2, 0)", "well() NONE", "glad(0, 51) NONE", "away(0, 20) NONE");
        refused("people(0)\nimage()\ntear()", "undo() NONE");
        for (String row : QUESTIONS) {
            asked(row);
        }
        faultIsNoFinding();
        c.end();
    }

    private static void refused(String state, String... rows) {
        for (String row : rows) {
            int blank = row.lastIndexOf(' ');
            String finding = row.substring(blank + 1);
            SundayVisits x = Script.made(c, state);
            SundayVisits twin = Script.made(c, state);
            c.due(row, Script.callOf(x, row.substring(0, blank)), Script.finding(finding));
            counted(row, x, twin, (int) (Check.BEYOND - Script.finding(finding)));
            same(row, x, twin);
        }
    }

    /** Promise 43: one more of this finding, and of all; no more of any other. */
    private static void counted(String row, SundayVisits x, SundayVisits twin, int place) {
        for (int which = -1; which <= 6; which++) {
            boolean more = place >= 0 && (which == -1 || which == place);
            c.due(row + ", then status(" + which + ")", x.status(which), twin.status(which) + (more ? 1 : 0));
        }
    }

    private static void same(String row, SundayVisits x, SundayVisits twin) {
        String is = Sight.of(x);
        String was = Sight.of(twin);
        if (!is.equals(was)) {
            c.fail(row + " changed something:\n" + is + "where it was:\n" + was);
        }
    }

    private static void asked(String row) {
        SundayVisits x = Script.made(c, BUSY);
        SundayVisits twin = Script.made(c, BUSY);
        if (Script.isFinding(Script.callOf(x, row))) {
            c.fail(row + " answered a finding");
        }
        counted(row, x, twin, -1);
        same(row, x, twin);
    }

    /** Promise 31: "nothing changes but that THE TAPE is empty; no finding". */
    private static void faultIsNoFinding() {
        SundayVisits x = Script.made(c, BUSY);
        SundayVisits twin = Script.made(c, BUSY);
        x.wipe();
        String text = "granny mood 9;visits 4 1;long 9;chairs 1;cake 1;volunteers 1;x";
        c.due("a text with a FAULT", Check.read(x, text), -62);
        twin.wipe();
        counted("a text with a FAULT", x, twin, -1);
        same("a text with a FAULT", x, twin);
    }
}
