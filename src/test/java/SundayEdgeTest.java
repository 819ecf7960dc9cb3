/** The edges that promises 9 to 15 name, a run of calls for each sentence. */
public final class SundayEdgeTest {
    private static final Check c = new Check();

    public static void main(String[] args) {
        go();
        now();
        ahead();
        glad();
        sad();
        when();
        well();
        c.end();
    }

    private static void run(String sentence, String rows) {
        Script.run(c, sentence, rows);
    }

    private static void go() {
        run("9: n SUNDAYS (1 to 60)", """
            people(2)
            set(2, 0)
            go(0) BEYOND
            go(-1) BEYOND
            now(0) 0
            go(1) 49
            now(0) 1
            go(61) BEYOND
            now(0) 1
            of(0, 3) 1
            go(60) 0
            now(0) 61
            of(0, 3) 61
            """);
        run("9: MOODS together then: nobody, and all eight", """
            go(1) 0
            go(60) 0
            people(4, 4, 4, 4, 4, 4, 4, 4)
            set(2, 8)
            go(1) 432
            go(60) 792
            """);
        run("9: n SUNDAYS, each with the place of its own", """
            people(0)
            set(2, 0)
            list(1, 0, 0, 0, 0, 0)
            go(6) 44
            of(0, 4) 1
            of(0, 3) 5
            go(1) 53
            of(0, 4) 2
            of(0, 3) 0
            """);
    }

    private static void now() {
        run("10: What 0 SUNDAY .. 7 CAME of all together. BEYOND", """
            now(-1) BEYOND
            now(0) 0
            now(7) 0
            now(8) BEYOND
            """);
        run("10: 1 MOODS together: the least and the most", """
            now(1) 0
            people(0, 0, 0, 0, 0, 0, 0, 0)
            now(1) 400
            change(0, 1, 99)
            change(7, 1, 0)
            now(1) 399
            """);
        run("10: 2 who are WELL, as a set: the first and the last one", """
            people(0, 0, 0, 0, 0, 0, 0, 0)
            now(2) 0
            change(0, 1, 60)
            now(2) 1
            change(7, 1, 99)
            now(2) 129
            change(0, 1, 59)
            now(2) 128
            """);
        run("10: 3 who would be VISITED on this SUNDAY, as a set", """
            visit(0, 255)
            now(3) 0
            people(2, 2, 2, 2, 2, 2, 2, 2)
            set(0, 8)
            now(3) 255
            set(0, 7)
            now(3) 127
            set(0, 0)
            now(3) 0
            """);
        run("10: 4 who would SHARE: all but the one", """
            people(0, 3, 3, 3, 3, 3, 3, 3)
            change(1, 2, 0)
            change(2, 2, 0)
            change(3, 2, 0)
            change(4, 2, 0)
            change(5, 2, 0)
            change(6, 2, 0)
            change(7, 2, 0)
            now(4) 0
            visit(0, 1)
            now(4) 254
            now(5) 0
            """);
        run("10: 5 to whom VOLUNTEERS would go: nobody, all", """
            now(5) 0
            people(0, 0, 0, 0, 0, 0, 0, 0)
            set(2, 0)
            now(5) 0
            set(2, 7)
            now(5) 127
            set(2, 8)
            now(5) 255
            """);
        run("10: 6 who WAITS longest (-1: there are none)", """
            now(6) -1
            people(0, 0, 0, 0, 0, 0, 0, 0)
            now(6) 0
            change(7, 3, 1)
            now(6) 7
            change(6, 3, 1)
            now(6) 6
            change(7, 3, 9999)
            now(6) 7
            change(0, 3, 9999)
            now(6) 0
            status(-1) 0
            """);
        run("10: 6 who WAITS longest, also if it is VISITED or a VOLUNTEER comes", """
            people(0, 0)
            change(1, 3, 5)
            visit(0, 2)
            now(3) 2
            now(6) 1
            visit(0, 0)
            now(5) 2
            now(6) 1
            """);
        run("10: 7 CAME of all together: the most", """
            people(0, 0, 0, 0, 0, 0, 0, 0)
            change(0, 4, 9999)
            change(1, 4, 9999)
            change(2, 4, 9999)
            change(3, 4, 9999)
            change(4, 4, 9999)
            change(5, 4, 9999)
            change(6, 4, 9999)
            change(7, 4, 9999)
            now(7) 79992
            """);
    }

    private static void ahead() {
        run("11: What 1, 3, 4 (as in of())", """
            people(2)
            ahead(0, -1, 0) BEYOND
            ahead(0, 0, 0) BEYOND
            ahead(0, 1, 0) 50
            ahead(0, 2, 0) BEYOND
            ahead(0, 3, 0) 0
            ahead(0, 4, 0) 0
            ahead(0, 5, 0) BEYOND
            ahead(0, 8, 0) BEYOND
            """);
        run("11: behind n (0 to 100) SUNDAYS", """
            people(2)
            set(2, 0)
            ahead(0, 3, -1) BEYOND
            ahead(0, 3, 0) 0
            ahead(0, 1, 1) 49
            ahead(0, 3, 99) 99
            ahead(0, 3, 100) 100
            ahead(0, 3, 101) BEYOND
            ahead(0, 1, 49) 1
            ahead(0, 1, 50) 0
            ahead(0, 1, 51) 0
            list(1, 1, 1, 1, 1, 1)
            ahead(0, 4, 100) 100
            now(0) 0
            """);
        run("11: of a RESIDENT: the first, the last, beyond both", """
            ahead(0, 1, 0) BEYOND
            people(0, 0)
            change(1, 1, 7)
            ahead(-1, 1, 0) BEYOND
            ahead(0, 1, 0) 50
            ahead(1, 1, 0) 7
            ahead(2, 1, 0) BEYOND
            """);
    }

    private static void glad() {
        run("12: v (0 to 99) or more", """
            people(4)
            glad(0, -1) BEYOND
            glad(0, 0) 0
            glad(0, 50) 0
            glad(0, 51) 1
            glad(0, 54) 1
            glad(0, 55) 2
            glad(0, 98) 12
            glad(0, 99) 13
            glad(0, 100) BEYOND
            change(0, 1, 99)
            glad(0, 99) 0
            """);
        run("12: SUNDAYS (0 to 200, the fewest): 200 are within", """
            people(2)
            set(2, 0)
            set(3, 5)
            visit(1, 1)
            change(0, 1, 22)
            glad(0, 59) 194
            glad(0, 60) 200
            glad(0, 61) NONE
            """);
        run("12: SUNDAYS (0 to 200, the fewest): 201 are beyond", """
            people(2)
            set(2, 0)
            set(3, 5)
            visit(2, 1)
            change(0, 1, 23)
            glad(0, 59) 195
            glad(0, 60) NONE
            """);
        run("12: the fewest, also if it is less again then", """
            people(0)
            set(2, 0)
            visit(0, 1)
            glad(0, 59) 1
            glad(0, 60) NONE
            """);
        run("12: of a RESIDENT. BEYOND. NONE, in this order", """
            glad(0, 0) BEYOND
            people(4, 4)
            set(2, 0)
            change(1, 1, 99)
            glad(-1, 0) BEYOND
            glad(2, 0) BEYOND
            glad(2, 99) BEYOND
            glad(0, 99) NONE
            glad(1, 99) 0
            glad(0, 100) BEYOND
            status(0) 5
            status(3) 1
            """);
    }

    private static void sad() {
        run("13: v (0 to 99) or less", """
            people(0)
            set(2, 0)
            sad(0, 100) BEYOND
            sad(0, 99) 0
            sad(0, 50) 0
            sad(0, 49) 1
            sad(0, 47) 1
            sad(0, 46) 2
            sad(0, 2) 16
            sad(0, 1) 17
            sad(0, 0) 17
            sad(0, -1) BEYOND
            change(0, 1, 0)
            sad(0, 0) 0
            """);
        run("13: SUNDAYS (0 to 200, the fewest): 200 are within", """
            people(2)
            set(2, 0)
            set(3, 3)
            visit(2, 1)
            sad(0, 16) 194
            sad(0, 15) 200
            sad(0, 14) NONE
            """);
        run("13: SUNDAYS (0 to 200, the fewest): 201 are beyond", """
            people(2)
            set(2, 0)
            set(3, 3)
            visit(3, 1)
            sad(0, 15) 195
            sad(0, 14) NONE
            """);
        run("13: BEYOND. NONE, in this order", """
            sad(0, 99) BEYOND
            people(4)
            sad(-1, 0) BEYOND
            sad(1, 0) BEYOND
            sad(0, 49) NONE
            sad(0, -1) BEYOND
            status(0) 4
            status(3) 1
            """);
    }

    private static void when() {
        run("14: CAME of a RESIDENT is v (0 to 9999) or more", """
            people(2)
            list(1, 1, 1, 1, 1, 1)
            when(0, -1) BEYOND
            when(0, 0) 0
            when(0, 1) 1
            when(0, 10000) BEYOND
            change(0, 4, 9990)
            when(0, 9990) 0
            when(0, 9991) 1
            when(0, 9999) 9
            """);
        run("14: SUNDAYS (0 to 200, the fewest): 200 are within", """
            people(2)
            list(1, 1, 1, 1, 1, 1)
            when(0, 199) 199
            when(0, 200) 200
            when(0, 201) NONE
            """);
        run("14: SUNDAYS (0 to 200, the fewest): 201 are beyond", """
            people(2)
            list(0, 0, 1, 0, 0, 0)
            when(0, 33) 195
            when(0, 34) NONE
            """);
        run("14: BEYOND. NONE, in this order", """
            when(0, 0) BEYOND
            people(2)
            when(-1, 0) BEYOND
            when(1, 0) BEYOND
            when(1, 9999) BEYOND
            when(0, 1) NONE
            when(0, 10000) BEYOND
            status(0) 5
            status(3) 1
            """);
    }

    private static void well() {
        run("15: all are WELL: nobody is there", """
            well() 0
            status(-1) 0
            """);
        run("15: all are WELL: also the last of eight", """
            people(4, 4, 4, 4, 4, 4, 4, 4)
            set(2, 8)
            well() 3
            set(2, 0)
            change(0, 1, 60)
            change(1, 1, 60)
            change(2, 1, 60)
            change(3, 1, 60)
            change(4, 1, 60)
            change(5, 1, 60)
            change(6, 1, 60)
            well() NONE
            change(7, 1, 59)
            well() NONE
            change(7, 1, 60)
            well() 0
            """);
        run("15: SUNDAYS (0 to 200, the fewest): 200 are within", """
            people(2)
            set(2, 0)
            set(3, 5)
            visit(1, 1)
            change(0, 1, 22)
            well() 200
            """);
        run("15: SUNDAYS (0 to 200, the fewest): 201 are beyond. NONE", """
            people(2)
            set(2, 0)
            set(3, 5)
            visit(2, 1)
            change(0, 1, 23)
            well() NONE
            status(3) 1
            """);
    }
}
