/** The edges that promises 32 to 38 name, a run of calls for each sentence. */
public final class SheetEdgeTest {
    private static final Check c = new Check();

    public static void main(String[] args) {
        hold();
        as();
        sheet();
        sheetFindings();
        write();
        lowestBits();
        copy();
        copyFindings();
        load();
        judge();
        c.end();
    }

    private static void run(String sentence, String rows) {
        Script.run(c, sentence, rows);
    }

    private static void hold() {
        run("32: A SPOT: the first, the last, beyond both", """
            people(0, 1)
            hold(-1, 0) BEYOND
            hold(0, 0) 1
            hold(9, 1) 1
            hold(10, 1) BEYOND
            as(0, 0) 0
            as(9, 0) 1
            count(7) 2
            """);
        run("32: holds a RESIDENT, or nothing (-1)", """
            people(0, 1)
            hold(3, -2) BEYOND
            hold(3, -1) 1
            as(3, 0) MISSING
            hold(3, 0) 1
            as(3, 0) 0
            hold(3, 1) 1
            as(3, 0) 1
            hold(3, 2) BEYOND
            as(3, 0) 1
            hold(3, -1) 1
            as(3, 0) MISSING
            count(7) 0
            """);
        run("32: nobody is there: nothing alone", """
            hold(0, 0) BEYOND
            hold(0, -1) 1
            """);
        run("32: the eighth one", """
            people(0, 0, 0, 0, 0, 0, 0, 6)
            hold(9, 7) 1
            hold(9, 8) BEYOND
            as(9, 6) 7
            """);
    }

    private static void as() {
        run("33: a kind (0 to 6)", """
            people(0, 6)
            hold(0, 0)
            hold(1, 1)
            as(0, -1) BEYOND
            as(0, 0) 0
            as(1, 6) 1
            as(1, 7) BEYOND
            """);
        run("33: BEYOND. MISSING: it holds nothing. KIND, in this order", """
            people(2)
            hold(0, 0)
            as(1, 7) BEYOND
            as(1, -1) BEYOND
            as(10, 0) BEYOND
            as(-1, 7) BEYOND
            as(1, 0) MISSING
            as(1, 6) MISSING
            as(0, 6) KIND
            status(0) 4
            status(5) 2
            status(2) 1
            """);
        int[] as = {1, 3, 5, 13, 29, 33, 67};
        for (int kind = 0; kind < 7; kind++) {
            StringBuilder rows = new StringBuilder("people(" + kind + ")\nhold(0, 0)\n");
            for (int above = 0; above < 7; above++) {
                rows.append("as(0, " + above + ") " + ((as[kind] >> above & 1) == 1 ? "0" : "KIND") + "\n");
            }
            run("33: KIND: it isn't of that kind, nor of one under it; kind " + kind, rows.toString());
        }
        run("33: of the kind that it is of now", """
            people(4)
            hold(0, 0)
            as(0, 3) 0
            change(0, 0, 6)
            as(0, 3) KIND
            as(0, 1) 0
            """);
    }

    private static void sheet() {
        run("34: n numbers: none, 40", """
            sheet(0, 8, 0) 0
            judge(0) 0
            write(0, 0, 1) BEYOND
            sheet(0, 8, 40) 40
            write(0, 39, 1) 1
            sheet(0, 8, 1) 1
            write(0, 0, 1) 1
            write(0, 1, 1) BEYOND
            """);
        run("34: all 0, also where numbers stood", """
            put(0, 8, 7, 7, 7)
            sheet(0, 8, 3) 3
            load(0) 3
            visits(0) 0
            visits(2) 0
            put(0, 8, 7, 7, 7)
            sheet(0, 8, 1)
            sheet(0, 8, 3)
            list(9, 9, 9)
            load(0) 3
            visits(2) 0
            put(0, 8, 7, 7, 7)
            sheet(0, 0, 0)
            sheet(0, 8, 3)
            list(9, 9, 9)
            load(0) 3
            visits(2) 0
            """);
        run("34: bits 0: it is MISSING: n (0 if it is MISSING)", """
            put(0, 8, 7, 7, 7)
            sheet(0, 0, 3) 0
            load(0) MISSING
            sheet(0, 0, 0) 0
            sheet(0, 0, 40) 0
            load(0) MISSING
            """);
        run("34: each sheet by itself", """
            put(0, 8, 1)
            put(1, 8, 2)
            put(2, 8, 3)
            put(3, 8, 4)
            sheet(1, 0, 0)
            load(0)
            visits(0) 1
            load(2)
            visits(0) 3
            load(3)
            visits(0) 4
            load(1) MISSING
            """);
    }

    private static void sheetFindings() {
        run("34: BEYOND: no such sheet, other bits", """
            sheet(-1, 8, 1) BEYOND
            sheet(0, 8, 1) 1
            sheet(3, 8, 1) 1
            sheet(4, 8, 1) BEYOND
            sheet(0, -1, 1) BEYOND
            sheet(0, 1, 1) BEYOND
            sheet(0, 7, 1) BEYOND
            sheet(0, 9, 1) BEYOND
            sheet(0, 24, 1) BEYOND
            sheet(0, 64, 1) BEYOND
            status(0) 8
            """);
        run("34: SIZE: n is below 0 (also with bits 0)", """
            put(0, 8, 5)
            sheet(0, 8, -1) SIZE
            sheet(0, 16, -1) SIZE
            sheet(0, 32, -1) SIZE
            sheet(0, 0, -1) SIZE
            sheet(0, 0, MIN) SIZE
            load(0) 1
            visits(0) 5
            status(6) 5
            """);
        run("34: BEYOND: n is above 40", """
            put(0, 8, 5)
            sheet(0, 8, 41) BEYOND
            sheet(0, 32, MAX) BEYOND
            sheet(0, 0, 41) BEYOND
            load(0) 1
            visits(0) 5
            """);
        run("34: BEYOND, SIZE, BEYOND in this order", """
            sheet(4, 8, -1) BEYOND
            sheet(0, 7, -1) BEYOND
            sheet(0, 7, 41) BEYOND
            sheet(0, 8, -1) SIZE
            status(0) 3
            status(6) 1
            """);
    }

    private static void write() {
        run("35: Number i: the first, the last, beyond both", """
            sheet(0, 8, 6)
            write(0, -1, 9) BEYOND
            write(0, 0, 9) 1
            write(0, 5, 8) 1
            write(0, 6, 9) BEYOND
            load(0) 6
            visits(0) 9
            visits(1) 0
            visits(4) 0
            visits(5) 8
            """);
        run("35: BEYOND: no such number: a sheet without numbers", """
            sheet(0, 8, 0)
            write(0, 0, 9) BEYOND
            write(0, -1, 9) BEYOND
            """);
        run("35: BEYOND: no such sheet. MISSING. BEYOND: no such number, in this order", """
            sheet(3, 8, 1)
            write(-1, 0, 9) BEYOND
            write(4, 0, 9) BEYOND
            write(4, -1, 9) BEYOND
            write(0, 0, 9) MISSING
            write(2, -1, 9) MISSING
            write(3, 1, 9) BEYOND
            write(3, 0, 9) 1
            status(0) 4
            status(5) 2
            """);
    }

    private static void lowestBits() {
        run("35: v (its lowest bits): 8", """
            people(0)
            sheet(0, 8, 1)
            write(0, 0, 127)
            load(0) 1
            visits(0) 127
            write(0, 0, 128)
            load(0) 0
            write(0, 0, 255)
            fits(0, 0) 100
            load(0) 0
            write(0, 0, 256)
            fits(0, 0) 60
            load(0) 1
            visits(0) 0
            write(0, 0, -1)
            fits(0, 0) 100
            write(0, 0, -255)
            fits(0, 0) 40
            write(0, 0, MAX)
            fits(0, 0) 100
            write(0, 0, MIN)
            fits(0, 0) 60
            """);
        run("35: v (its lowest bits): 16", """
            people(0)
            sheet(0, 16, 1)
            write(0, 0, 255)
            load(0) 1
            visits(0) 255
            write(0, 0, 256)
            load(0) 0
            write(0, 0, 32768)
            load(0) 0
            write(0, 0, 65535)
            fits(0, 0) 100
            write(0, 0, 65536)
            fits(0, 0) 60
            write(0, 0, 65537)
            fits(0, 0) 40
            write(0, 0, 65791)
            load(0) 1
            visits(0) 255
            write(0, 0, MAX)
            fits(0, 0) 100
            write(0, 0, MIN)
            fits(0, 0) 60
            """);
        run("35: v: all of 32 bits", """
            people(0)
            sheet(0, 32, 1)
            write(0, 0, 255)
            load(0) 1
            visits(0) 255
            write(0, 0, 256)
            load(0) 0
            write(0, 0, 65536)
            fits(0, 0) 0
            write(0, 0, 65535)
            fits(0, 0) 0
            write(0, 0, -1)
            fits(0, 0) 100
            write(0, 0, MAX)
            fits(0, 0) 0
            load(0) 0
            write(0, 0, MIN)
            fits(0, 0) 0
            """);
    }

    private static void copy() {
        run("36: n numbers: none, one, all", """
            put(0, 8, 1, 2, 3)
            put(1, 8, 4, 5, 6)
            copy(0, 0, 1, 0, 0) 0
            copy(0, 3, 1, 3, 0) 0
            load(1)
            visits(0) 4
            visits(2) 6
            copy(0, 2, 1, 0, 1) 1
            load(1)
            visits(0) 3
            visits(1) 5
            copy(0, 0, 1, 0, 3) 3
            load(1)
            visits(0) 1
            visits(1) 2
            visits(2) 3
            """);
        run("36: of a sheet come to another one: all 40 of the last one", """
            sheet(3, 32, 40)
            sheet(0, 32, 40)
            write(3, 0, 77)
            write(3, 39, 88)
            copy(3, 0, 0, 0, 40) 40
            load(0)
            visits(0) 77
            copy(0, 39, 0, 0, 1) 1
            load(0)
            visits(0) 88
            """);
        run("36: (as they all were): within one sheet, up", """
            put(0, 16, 1, 2, 3, 4, 5, 6)
            copy(0, 0, 0, 1, 5) 5
            load(0)
            visits(0) 1
            visits(1) 1
            visits(2) 2
            visits(5) 5
            """);
        run("36: (as they all were): within one sheet, down, and onto itself", """
            put(0, 16, 1, 2, 3, 4, 5, 6)
            copy(0, 1, 0, 0, 5) 5
            copy(0, 0, 0, 0, 6) 6
            load(0)
            visits(0) 2
            visits(3) 5
            visits(4) 6
            visits(5) 6
            """);
    }

    private static void copyFindings() {
        run("36: BEYOND: no such sheet (either)", """
            put(0, 8, 1)
            put(3, 8, 1)
            copy(-1, 0, 0, 0, 1) BEYOND
            copy(4, 0, 0, 0, 1) BEYOND
            copy(0, 0, -1, 0, 1) BEYOND
            copy(0, 0, 4, 0, 1) BEYOND
            copy(0, 0, 3, 0, 1) 1
            copy(3, 0, 0, 0, 1) 1
            """);
        run("36: MISSING: one is", """
            put(0, 8, 1)
            copy(1, 0, 0, 0, 0) MISSING
            copy(0, 0, 1, 0, 0) MISSING
            copy(1, 0, 1, 0, 0) MISSING
            """);
        run("36: KIND: they are not of as many bits", """
            put(0, 8, 1)
            put(1, 16, 1)
            put(2, 32, 1)
            put(3, 8, 1)
            copy(0, 0, 1, 0, 1) KIND
            copy(1, 0, 2, 0, 1) KIND
            copy(2, 0, 0, 0, 0) KIND
            copy(0, 0, 3, 0, 1) 1
            """);
        run("36: BEYOND: one has not so many, or from, to or n is below 0", """
            put(0, 8, 1, 2, 3)
            put(1, 8, 4, 5)
            copy(0, 0, 1, 0, 2) 2
            copy(0, 0, 1, 0, 3) BEYOND
            copy(1, 0, 0, 0, 3) BEYOND
            copy(0, 1, 1, 0, 2) 2
            copy(0, 2, 1, 0, 2) BEYOND
            copy(1, 0, 0, 1, 2) 2
            copy(1, 0, 0, 2, 2) BEYOND
            copy(0, -1, 1, 0, 1) BEYOND
            copy(0, 0, 1, -1, 1) BEYOND
            copy(0, 0, 1, 0, -1) BEYOND
            copy(0, 3, 1, 2, 0) 0
            copy(0, 4, 1, 2, 0) BEYOND
            copy(0, 3, 1, 3, 0) BEYOND
            copy(0, MAX, 1, 0, 1) BEYOND
            copy(0, 1, 1, 1, MAX) BEYOND
            copy(0, MIN, 1, MIN, MIN) BEYOND
            """);
        run("36: BEYOND, MISSING, KIND, BEYOND in this order", """
            put(0, 8, 1)
            put(1, 16, 1)
            copy(3, -1, 4, 0, 9) BEYOND
            copy(3, -1, 1, 0, 9) MISSING
            copy(0, -1, 1, 0, 9) KIND
            copy(0, -1, 0, 0, 9) BEYOND
            status(0) 2
            status(5) 1
            status(2) 1
            """);
    }

    private static void load() {
        run("37: ends .. for which there is no place: six numbers, seven", """
            put(0, 8, 1, 2, 3, 4, 5, 6)
            load(0) 6
            visits(5) 6
            put(0, 8, 11, 12, 13, 14, 15, 16, 17)
            load(0) 6
            visits(0) 11
            visits(5) 16
            """);
        run("37: ends at the first that isn't 0 to 255", """
            list(90, 91, 92, 93, 94, 95)
            put(0, 16, 0, 255, 256, 7)
            load(0) 2
            visits(0) 0
            visits(1) 255
            visits(2) 92
            visits(3) 93
            put(0, 16, 5, -1, 7)
            load(0) 1
            visits(0) 5
            visits(1) 255
            put(0, 16, 256)
            load(0) 0
            visits(0) 5
            """);
        run("37: a sheet without numbers, with fewer than six", """
            list(90, 91, 92, 93, 94, 95)
            sheet(0, 8, 0)
            load(0) 0
            visits(0) 90
            put(0, 8, 1, 2, 3, 4, 5)
            load(0) 5
            visits(4) 5
            visits(5) 95
            """);
        run("37: BEYOND: no such sheet. MISSING", """
            load(-1) BEYOND
            load(0) MISSING
            load(3) MISSING
            load(4) BEYOND
            """);
    }

    private static void judge() {
        run("38: 0 if so; else 1 and the place of the first that isn't so", """
            people(0, 0, 0)
            change(0, 1, 0)
            change(2, 1, 99)
            put(0, 8, 0, 50, 99)
            judge(0) 0
            put(0, 8, 1, 50, 98)
            judge(0) 1
            put(0, 8, 0, 50, 98)
            judge(0) 3
            put(0, 8, 0, -1, 99)
            judge(0) 2
            """);
        run("38: of RESIDENTS 0, 1, ..: fewer numbers, more numbers", """
            people(0, 0)
            sheet(0, 8, 0)
            judge(0) 0
            put(0, 8, 50)
            judge(0) 0
            put(0, 8, 50, 50)
            judge(0) 0
            put(0, 8, 50, 50, 50)
            judge(0) 3
            put(0, 8, 50, 49, 50)
            judge(0) 2
            status(-1) 0
            """);
        run("38: nobody is there", """
            sheet(0, 8, 0)
            judge(0) 0
            sheet(0, 8, 40)
            judge(0) 1
            """);
        run("38: all eight", """
            people(0, 0, 0, 0, 0, 0, 0, 0)
            put(0, 8, 50, 50, 50, 50, 50, 50, 50, 50)
            judge(0) 0
            put(0, 8, 50, 50, 50, 50, 50, 50, 50, 51)
            judge(0) 8
            put(0, 8, 50, 50, 50, 50, 50, 50, 50, 50, 50)
            judge(0) 9
            """);
        run("38: BEYOND: no such sheet. MISSING", """
            judge(-1) BEYOND
            judge(0) MISSING
            judge(3) MISSING
            judge(4) BEYOND
            """);
    }
}
