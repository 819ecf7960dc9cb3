/** The edges that the document's "Terms" name, a run of calls for each sentence. */
public final class TermsEdgeTest {
    private static final Check c = new Check();

    public static void main(String[] args) {
        findings();
        quotientsAndLeast();
        settings();
        theList();
        residents();
        gains();
        loses();
        shares();
        chairsLeft();
        friendsVisit();
        volunteersByWaiting();
        cakeLeft();
        moodHeldAbove();
        moodHeldBelow();
        tallies();
        aheadOfFour();
        sundaysEnd();
        wellFrom();
        draws();
        spotsAndSheets();
        c.end();
    }

    private static void run(String sentence, String rows) {
        Script.run(c, sentence, rows);
    }

    private static void findings() {
        run("FINDINGS: LOW is -1000001; LOW BEYOND, LOW - 1 FULL, .. LOW - 6 SIZE (in longs, too)", """
            home(4) -1000001
            people(0, 0, 0, 0, 0, 0, 0, 0)
            resident(0) -1000002
            hold(0, 0)
            as(0, 1) -1000003
            undo() -1000004
            judge(0) -1000006
            sheet(0, 8, -1) -1000007
            odds(8, 0, 0) -1000001
            """);
    }

    private static void quotientsAndLeast() {
        run("Quotients are cut: half of 7 and of 9", """
            people(0, 3)
            set(2, 0)
            change(1, 2, 0)
            visit(0, 1)
            set(3, 2)
            of(1, 6) 7
            ahead(1, 1, 1) 53
            set(3, 4)
            of(1, 6) 9
            ahead(1, 1, 1) 54
            """);
        run("Quotients are cut: half of 3", """
            people(0, 1)
            set(2, 0)
            set(3, 1)
            change(1, 1, 70)
            change(1, 2, 0)
            visit(0, 1)
            of(1, 6) 3
            ahead(1, 1, 1) 71
            """);
        run("Sets are told as bits: none, and all eight", """
            now(2) 0
            now(3) 0
            people(2, 2, 2, 2, 2, 2, 2, 2)
            now(2) 0
            set(0, 8)
            visit(0, 255)
            now(3) 255
            visit(0, 0)
            set(2, 8)
            now(5) 255
            go(3)
            now(2) 255
            """);
        run("of several that would do the least number counts", """
            people(0, 0, 0)
            longFor(0) 1
            comeOn(2, 0) 0
            kindFor(2, 0) 0
            friendFor(0, 0) 1
            friendFor(2, 0) 0
            now(6) 0
            """);
    }

    private static void settings() {
        run("CHAIRS (0 to 20; 6 at first)", """
            home(0) 6
            set(0, 21) BEYOND
            set(0, 20) 6
            set(0, -1) BEYOND
            set(0, 0) 20
            home(0) 0
            """);
        run("CAKE (pieces on a SUNDAY; 0 to 20; 11 at first)", """
            home(1) 11
            set(1, 21) BEYOND
            set(1, 20) 11
            set(1, -1) BEYOND
            set(1, 0) 20
            home(1) 0
            """);
        run("VOLUNTEERS (0 to 8; 1 at first)", """
            home(2) 1
            set(2, 9) BEYOND
            set(2, 8) 1
            set(2, -1) BEYOND
            set(2, 0) 8
            home(2) 0
            """);
        run("LONG (how long a visit is; 1 to 12; 4 at first)", """
            home(3) 4
            set(3, 13) BEYOND
            set(3, 12) 4
            set(3, 0) BEYOND
            set(3, 1) 12
            home(3) 1
            """);
    }

    private static void theList() {
        run("six VISITS: a set (0 to 255; 0 at first)", """
            visits(0) 0
            visits(5) 0
            visit(0, 255) 0
            visit(0, 256) BEYOND
            visit(5, 255) 0
            visit(6, 255) BEYOND
            visit(-1, 0) BEYOND
            visit(5, -1) BEYOND
            visit(5, 0) 255
            visits(0) 255
            visits(5) 0
            """);
        run("one for SUNDAY modulo 6: the sixth, and the first one again", """
            people(2)
            list(0, 0, 0, 0, 0, 1)
            now(3) 0
            go(5)
            now(3) 1
            go(1)
            now(3) 0
            list(1, 0, 0, 0, 0, 0)
            now(3) 1
            go(59)
            now(0) 65
            now(3) 0
            go(1)
            now(3) 1
            """);
        run("those that there aren't are nobody", """
            people(0)
            set(0, 20)
            visit(0, 254)
            now(3) 0
            now(4) 0
            now(5) 1
            chairsFor(1, 6) NONE
            odds(0, 1, 0) 1
            odds(0, 1, 1) 2
            resident(5) 1
            now(3) 2
            go(1) 113
            now(7) 1
            """);
        run("those that there aren't are nobody: a WATCHER sees none of them", """
            people(5)
            set(2, 0)
            visit(0, 254)
            go(1) 47
            """);
    }

    private static void residents() {
        run("RESIDENTS 0, 1, .. (at most 8)", """
            resident(0) 0
            resident(1) 1
            resident(2) 2
            resident(3) 3
            resident(4) 4
            resident(5) 5
            resident(6) 6
            resident(0) 7
            resident(0) FULL
            count(1) 8
            of(7, 0) 0
            of(8, 0) BEYOND
            """);
        run("of KINDS: 0 to 6", """
            resident(-1) BEYOND
            resident(7) BEYOND
            count(1) 0
            resident(6) 0
            change(0, 0, 7) BEYOND
            change(0, 0, -1) BEYOND
            change(0, 0, 0) 6
            of(0, 0) 0
            """);
        run("MOOD (0 to 99; 50 at first)", """
            people(4)
            of(0, 1) 50
            change(0, 1, 100) BEYOND
            change(0, 1, 99) 50
            change(0, 1, -1) BEYOND
            change(0, 1, 0) 99
            of(0, 1) 0
            """);
        run("a FRIEND (another one, or -1: nobody, at first)", """
            people(3, 3, 3)
            of(1, 2) -1
            change(1, 2, 1) BEYOND
            change(1, 2, 3) BEYOND
            change(1, 2, -2) BEYOND
            change(1, 2, 2) -1
            change(1, 2, 0) 2
            change(1, 2, -1) 0
            change(1, 2, -1) -1
            """);
        run("WAITS (SUNDAYS; 0 to 9999; 0 at first)", """
            people(4)
            of(0, 3) 0
            change(0, 3, 10000) BEYOND
            change(0, 3, 9999) 0
            change(0, 3, -1) BEYOND
            change(0, 3, 0) 9999
            """);
        run("CAME (how often it was visited; 0 to 9999; 0 at first)", """
            people(4)
            of(0, 4) 0
            change(0, 4, 10000) BEYOND
            change(0, 4, 9999) 0
            change(0, 4, -1) BEYOND
            change(0, 4, 0) 9999
            """);
    }

    private static void gains() {
        gainsOf("RESIDENT: twice LONG, but no more than 12", 0, 2, 10, 12, 12, 12);
        gainsOf("LIVELY: as a RESIDENT, and LONG", 1, 3, 15, 18, 19, 24);
        gainsOf("SLEEPER: half (cut) of a RESIDENT", 2, 1, 5, 6, 6, 6);
        gainsOf("VAGUE: as a SLEEPER, and 5", 3, 6, 10, 11, 11, 11);
        gainsOf("DREAMER: as a VAGUE one", 4, 6, 10, 11, 11, 11);
        gainsOf("WATCHER: as a RESIDENT, less 2, if LONG is above 6", 5, 2, 10, 12, 10, 10);
        gainsOf("GRANNY: as a LIVELY one", 6, 3, 15, 18, 19, 24);
    }

    /** What a kind GAINS with LONG 1, 5, 6, 7 and 12, as told and by a visit. */
    private static void gainsOf(String sentence, int kind, int... due) {
        int[] lengths = {1, 5, 6, 7, 12};
        for (int i = 0; i < lengths.length; i++) {
            run("GAINS, " + sentence, """
                people(%d)
                set(1, 0)
                set(3, %d)
                visit(0, 1)
                of(0, 6) %d
                go(1) %d
                """.formatted(kind, lengths[i], due[i], 50 + due[i]));
        }
    }

    private static void loses() {
        int[] due = {3, 2, 1, 1, 0, 3, 2};
        for (int kind = 0; kind < 7; kind++) {
            int late = kind == Check.VAGUE ? 2 : due[kind];
            run("LOSES, VAGUE: as a SLEEPER, and 1, if it WAITS 4 SUNDAYS or more; kind " + kind, """
                people(%1$d)
                set(2, 0)
                change(0, 3, 3)
                of(0, 7) %2$d
                ahead(0, 1, 1) %4$d
                change(0, 3, 4)
                of(0, 7) %3$d
                ahead(0, 1, 1) %5$d
                change(0, 3, 9999)
                of(0, 7) %3$d
                change(0, 3, 0)
                of(0, 7) %2$d
                """.formatted(kind, due[kind], late, 50 - due[kind], 50 - late));
        }
        for (int visited = 0; visited <= 7; visited++) {
            run("LOSES, WATCHER: as a RESIDENT, and 1 for each one that is visited on that SUNDAY; " + visited, """
                people(5, 2, 2, 2, 2, 2, 2, 2)
                set(0, %1$d)
                set(2, 0)
                visit(0, 254)
                of(0, 7) 3
                ahead(0, 1, 1) %2$d
                """.formatted(visited, 47 - visited));
        }
        run("LOSES, WATCHER: who SHARES and whom VOLUNTEERS go to is not visited", """
            people(5, 0, 3, 0)
            change(2, 2, 1)
            change(3, 3, 1)
            visit(0, 2)
            now(4) 4
            now(5) 8
            ahead(0, 1, 1) 46
            """);
    }

    private static void shares() {
        for (int kind = 0; kind < 7; kind++) {
            boolean yes = kind == Check.GRANNY || kind == Check.VAGUE;
            boolean no = kind == Check.DREAMER;
            run("SHARES: GRANNY, VAGUE: yes. DREAMER: no. All others: if MOOD is 70 or more; kind " + kind, """
                people(0, %1$d)
                change(1, 2, 0)
                visit(0, 1)
                change(1, 1, 0)
                of(1, 8) %2$d
                change(1, 1, 69)
                of(1, 8) %2$d
                now(4) %4$d
                change(1, 1, 70)
                of(1, 8) %3$d
                now(4) %5$d
                change(1, 1, 99)
                of(1, 8) %3$d
                """.formatted(kind, yes ? 1 : 0, no ? 0 : 1, yes ? 2 : 0, no ? 0 : 2));
        }
    }

    private static void chairsLeft() {
        int[] seats = {2, 3, 1, 1, 1, 2, 4};
        for (int kind = 0; kind < 7; kind++) {
            run("(1) VISITED, if as many CHAIRS are left as one SEATS; kind " + kind, """
                people(%1$d)
                visit(0, 1)
                of(0, 5) %2$d
                set(0, %2$d)
                now(3) 1
                set(0, %3$d)
                now(3) 0
                """.formatted(kind, seats[kind], seats[kind] - 1));
        }
        run("(1) they are taken then; else it isn't, and the next one by numbers may be", """
            people(1, 6, 0, 2, 2)
            visit(0, 31)
            set(0, 0)
            now(3) 0
            set(0, 1)
            now(3) 8
            set(0, 2)
            now(3) 4
            set(0, 6)
            now(3) 13
            set(0, 7)
            now(3) 3
            set(0, 10)
            now(3) 15
            set(0, 11)
            now(3) 31
            """);
        run("(1) all 20 CHAIRS", """
            people(6, 6, 6, 6, 6, 2)
            visit(0, 63)
            set(0, 19)
            now(3) 47
            set(0, 20)
            now(3) 31
            """);
    }

    private static void friendsVisit() {
        run("(2) One that isn't VISITED SHARES, if its FRIEND is (by (1))", """
            people(0, 3, 3, 3)
            change(1, 2, 0)
            change(2, 2, 1)
            change(3, 2, -1)
            visit(0, 1)
            now(4) 2
            set(0, 1)
            now(3) 0
            now(4) 0
            visit(0, 3)
            now(3) 2
            now(4) 4
            set(0, 3)
            now(3) 3
            now(4) 4
            """);
        run("(2) a FRIEND whom a VOLUNTEER goes to is not VISITED", """
            people(0, 3)
            change(1, 2, 0)
            now(5) 1
            now(4) 0
            """);
        run("(2) FRIENDS of one another; the seventh and the eighth", """
            people(2, 2, 2, 2, 2, 2, 3, 3)
            change(6, 2, 7)
            change(7, 2, 6)
            visit(0, 64)
            now(4) 128
            visit(0, 128)
            now(4) 64
            visit(0, 192)
            now(4) 0
            """);
    }

    private static void volunteersByWaiting() {
        run("(3) as many as there are VOLUNTEERS get one each", """
            people(0, 0, 0)
            set(2, 0)
            now(5) 0
            set(2, 2)
            now(5) 3
            set(2, 3)
            now(5) 7
            set(2, 4)
            now(5) 7
            set(2, 8)
            now(5) 7
            """);
        run("(3) those who WAIT longest (of several the least numbers)", """
            people(0, 0, 0, 0)
            change(1, 3, 9998)
            change(2, 3, 9999)
            change(3, 3, 9999)
            now(5) 4
            set(2, 2)
            now(5) 12
            set(2, 3)
            now(5) 14
            """);
        run("(3) Of those that neither is so of", """
            people(0, 3, 0)
            change(0, 3, 9)
            change(1, 3, 9)
            change(1, 2, 0)
            visit(0, 1)
            now(3) 1
            now(4) 2
            now(5) 4
            set(2, 8)
            now(5) 4
            visit(0, 5)
            now(5) 0
            """);
    }

    private static void cakeLeft() {
        for (int cake = 0; cake <= 4; cake++) {
            run("(4) 1 more, if a piece of CAKE is left for it (each takes one); " + cake, """
                people(2, 2, 2)
                set(1, %1$d)
                visit(0, 7)
                go(1)
                of(0, 1) %2$d
                of(1, 1) %3$d
                of(2, 1) %4$d
                home(1) %1$d
                """.formatted(cake, cake > 0 ? 55 : 54, cake > 1 ? 55 : 54, cake > 2 ? 55 : 54));
        }
        run("(4) who isn't VISITED takes no CAKE", """
            people(0, 3, 0, 0)
            change(1, 2, 0)
            set(1, 2)
            visit(0, 9)
            go(1)
            of(0, 1) 59
            of(1, 1) 54
            of(2, 1) 54
            of(3, 1) 59
            """);
    }

    private static void moodHeldAbove() {
        int[][] pairs = {{89, 98}, {90, 99}, {91, 99}, {99, 99}};
        for (int[] p : pairs) {
            run("(4) MOOD is held within 0 to 99: VISITED", """
                people(0)
                visit(0, 1)
                change(0, 1, %d)
                go(1) %d
                """.formatted(p[0], p[1]));
            run("(4) MOOD is held within 0 to 99: SHARES, by a VOLUNTEER", """
                people(0, 3, 0)
                change(0, 1, 0)
                change(1, 2, 0)
                visit(0, 1)
                change(1, 1, %1$d)
                change(2, 1, %1$d)
                go(1)
                of(1, 1) %2$d
                of(2, 1) %2$d
                """.formatted(Math.min(99, p[0] + 5), p[1]));
        }
    }

    private static void moodHeldBelow() {
        int[][] pairs = {{4, 1}, {3, 0}, {2, 0}, {0, 0}};
        for (int[] p : pairs) {
            run("(4) MOOD is held within 0 to 99: Without", """
                people(0)
                set(2, 0)
                change(0, 1, %d)
                go(1) %d
                """.formatted(p[0], p[1]));
            run("(4) MOOD is held within 0 to 99: a WATCHER that loses 10", """
                people(5, 2, 2, 2, 2, 2, 2, 2)
                set(0, 7)
                set(2, 0)
                visit(0, 254)
                change(0, 1, %d)
                ahead(0, 1, 1) %d
                """.formatted(p[0] == 0 ? 0 : p[0] + 7, p[1]));
        }
        run("(4) a DREAMER loses nothing", """
            people(4)
            set(2, 0)
            change(0, 1, 0)
            go(60) 0
            """);
    }

    private static void tallies() {
        run("(4) VISITED: WAITS is 0, CAME 1 more (9999 at most)", """
            people(2)
            list(1, 1, 1, 1, 1, 1)
            change(0, 3, 9999)
            change(0, 4, 9998)
            go(1)
            of(0, 3) 0
            of(0, 4) 9999
            go(1)
            of(0, 4) 9999
            now(7) 9999
            ahead(0, 4, 100) 9999
            """);
        run("(4) Without: WAITS 1 more (9999 at most)", """
            people(2)
            set(2, 0)
            change(0, 3, 9998)
            go(1)
            of(0, 3) 9999
            go(1)
            of(0, 3) 9999
            """);
        run("(4) SHARES: WAITS 1 more, 9999 at most", """
            people(0, 3)
            change(1, 2, 0)
            list(1, 1, 1, 1, 1, 1)
            change(1, 3, 9998)
            go(1)
            of(1, 3) 9999
            go(1)
            of(1, 3) 9999
            of(1, 4) 0
            """);
        run("(4) By a VOLUNTEER: MOOD 4 more, WAITS is 0", """
            people(2)
            change(0, 3, 9999)
            go(1) 54
            of(0, 3) 0
            of(0, 4) 0
            """);
    }

    private static void aheadOfFour() {
        run("(4) all as each was ahead of (4): a VAGUE one that WAITS 4 only then", """
            people(3)
            set(2, 0)
            change(0, 3, 3)
            go(1) 49
            of(0, 3) 4
            go(1) 47
            """);
        run("(4) all as each was ahead of (4): MOOD 70 only then", """
            people(0, 0)
            set(2, 1)
            change(1, 2, 0)
            change(1, 1, 69)
            list(1, 1, 0, 0, 0, 0)
            go(1)
            of(1, 1) 73
            of(1, 3) 0
            go(1)
            of(1, 1) 77
            of(1, 3) 1
            """);
    }

    /** No 512 calls come so far; what later calls answer is free, and here it is as the sentences say. */
    private static void sundaysEnd() {
        Script.longRun(c, "SUNDAY is one more (99999 at most); STATE: SUNDAY would be above 99999", """
            people(2)
            set(2, 0)
            1666 x go(60)
            now(0) 99960
            seed(5)
            go(40) STATE
            go(60) STATE
            go(61) BEYOND
            go(0) BEYOND
            now(0) 99960
            go(19) 0
            go(1) 0
            come(20) STATE
            come(21) BEYOND
            come(0) BEYOND
            count(6) 5
            home(3) 4
            come(18)
            now(0) 99998
            list(0, 0, 1, 1, 0, 0)
            set(3, 4)
            change(0, 4, 0)
            ahead(0, 4, 1) 1
            ahead(0, 4, 100) 100
            come(2) STATE
            image()
            come(1)
            now(0) 99999
            undo() 99998
            go(2) STATE
            go(1)
            now(0) 99999
            go(1) STATE
            come(1) STATE
            of(0, 4) 1
            list(0, 0, 0, 1, 0, 0)
            ahead(0, 4, 100) 101
            when(0, 201) 200
            when(0, 202) NONE
            image()
            undo() 99999
            status(4) 7
            """);
    }

    private static void wellFrom() {
        run("WELL: MOOD 60 or more", """
            people(4, 4)
            set(2, 0)
            change(0, 1, 59)
            change(1, 1, 60)
            now(2) 2
            count(4) 1
            well() NONE
            away(0, 0) NONE
            away(1, 0) 0
            change(0, 1, 60)
            now(2) 3
            count(4) 2
            well() 0
            away(0, 0) 0
            """);
    }

    private static void draws() {
        int[][] due = {{1, 126, 9, -1770082073}, {0, 48, 7, -740551042}, {-1, 225, 1, 288979989},
            {Integer.MAX_VALUE, 225, 9, -1858503659}, {Integer.MIN_VALUE, 48, 11, 1406932606},
            {-376, 0, 1, -183940026}, {-1352, 0, 12, -384001034}, {-4329, 255, 1, -2076771091},
            {-660, 255, 12, 145096650}};
        for (int[] row : due) {
            run("DRAWS: each makes it z * 1103515245 + 12345 (an int), and gives z >>> 8; from " + row[0], """
                count(6) 1
                seed(%d) 1
                come(1) 0
                visits(0) %d
                home(3) %d
                count(6) %d
                """.formatted(row[0], row[1], row[2], row[3]));
        }
    }

    private static void spotsAndSheets() {
        run("SPOTS 0 to 9 hold a RESIDENT or nothing (at first)", """
            count(7) 0
            as(0, 0) MISSING
            as(9, 0) MISSING
            as(10, 0) BEYOND
            as(-1, 0) BEYOND
            people(0)
            hold(0, 0) 1
            hold(9, 0) 1
            hold(10, 0) BEYOND
            hold(-1, 0) BEYOND
            as(0, 0) 0
            as(9, 0) 0
            as(5, 0) MISSING
            count(7) 2
            """);
        run("SPOTS: all ten hold one", """
            people(0, 1)
            hold(0, 1)
            hold(1, 1)
            hold(2, 1)
            hold(3, 1)
            hold(4, 1)
            hold(5, 1)
            hold(6, 1)
            hold(7, 1)
            hold(8, 1)
            hold(9, 1)
            count(7) 10
            """);
        run("SHEETS 0 to 3: or MISSING (at first)", """
            judge(-1) BEYOND
            judge(0) MISSING
            judge(1) MISSING
            judge(2) MISSING
            judge(3) MISSING
            judge(4) BEYOND
            """);
        run("rows of at most 40 numbers of 8, 16 or 32 bits", """
            sheet(0, 8, 40) 40
            sheet(3, 16, 40) 40
            sheet(3, 32, 40) 40
            sheet(0, 8, 41) BEYOND
            sheet(0, 16, 41) BEYOND
            sheet(0, 32, 41) BEYOND
            write(0, 39, 1) 1
            write(0, 40, 1) BEYOND
            sheet(0, 7, 1) BEYOND
            sheet(0, 15, 1) BEYOND
            sheet(0, 17, 1) BEYOND
            sheet(0, 31, 1) BEYOND
            sheet(0, 33, 1) BEYOND
            write(0, 39, 1) 1
            """);
    }
}
