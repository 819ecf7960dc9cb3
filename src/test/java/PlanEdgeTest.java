/** The edges that promises 16 to 22 name, a run of calls for each sentence. */
public final class PlanEdgeTest {
    private static final Check c = new Check();

    public static void main(String[] args) {
        longFor();
        chairsFor();
        volunteersFor();
        comeOn();
        kindFor();
        friendFor();
        away();
        awayFewest();
        c.end();
    }

    private static void run(String sentence, String rows) {
        Script.run(c, sentence, rows);
    }

    private static void longFor() {
        run("16: behind n (0 to 40) SUNDAYS", """
            people(5)
            set(1, 0)
            set(2, 0)
            change(0, 1, 0)
            list(1, 1, 1, 1, 1, 1)
            longFor(-1) BEYOND
            longFor(0) 1
            longFor(1) 6
            longFor(8) 6
            longFor(9) 6
            longFor(10) 5
            longFor(24) 3
            longFor(25) 2
            longFor(40) 2
            longFor(41) BEYOND
            home(3) 4
            """);
        run("16: The LONG: the most that there is", """
            people(1)
            change(0, 1, 0)
            visit(0, 1)
            longFor(1) 12
            change(0, 1, 76)
            longFor(1) 10
            change(0, 1, 75)
            longFor(1) 11
            change(0, 1, 74)
            longFor(1) 12
            """);
        run("16: MOODS together are most: 1 against 0, and 0 all over", """
            people(2)
            set(1, 0)
            set(2, 0)
            change(0, 1, 0)
            visit(0, 1)
            longFor(5) 6
            longFor(6) 6
            ahead(0, 1, 6) 0
            visit(0, 0)
            longFor(6) 1
            """);
        run("16: MOODS together: nobody is there", """
            longFor(0) 1
            longFor(40) 1
            """);
    }

    private static void chairsFor() {
        run("17: The fewest CHAIRS: none, all 20, NONE", """
            people(6, 6, 6, 6, 6, 6)
            visit(0, 63)
            chairsFor(0, 1) 0
            chairsFor(1, 1) 4
            chairsFor(2, 1) 8
            chairsFor(5, 1) 20
            chairsFor(6, 1) NONE
            home(0) 6
            """);
        run("17: v (0 to 9999) or more", """
            people(2, 2)
            change(0, 4, 9999)
            chairsFor(-1, 0) BEYOND
            chairsFor(0, 0) 0
            chairsFor(9999, 0) 0
            chairsFor(10000, 0) BEYOND
            change(0, 4, 9998)
            chairsFor(9998, 0) 0
            chairsFor(9999, 0) NONE
            visit(0, 1)
            chairsFor(9999, 1) 1
            """);
        run("17: behind n (0 to 40) SUNDAYS", """
            people(2)
            list(1, 1, 1, 1, 1, 1)
            chairsFor(0, -1) BEYOND
            chairsFor(1, 0) NONE
            chairsFor(40, 39) NONE
            chairsFor(40, 40) 1
            chairsFor(41, 40) NONE
            chairsFor(0, 41) BEYOND
            """);
        run("17: CAME of all together: nobody is there", """
            chairsFor(0, 40) 0
            chairsFor(1, 40) NONE
            """);
        run("17: BEYOND. NONE, in this order", """
            chairsFor(9999, 40) NONE
            chairsFor(10000, 40) BEYOND
            chairsFor(9999, 41) BEYOND
            status(0) 2
            status(3) 1
            """);
    }

    private static void volunteersFor() {
        run("18: The fewest VOLUNTEERS: none, all 8, NONE", """
            people(0, 0, 0, 0, 0, 0, 0, 0)
            volunteersFor(47, 1) 0
            volunteersFor(48, 1) 8
            volunteersFor(54, 1) 8
            volunteersFor(55, 1) NONE
            home(2) 1
            """);
        run("18: MOOD of nobody is below v (0 to 99)", """
            people(4, 4)
            volunteersFor(-1, 0) BEYOND
            volunteersFor(0, 0) 0
            change(0, 1, 0)
            volunteersFor(0, 0) 0
            volunteersFor(1, 0) NONE
            change(0, 1, 99)
            change(1, 1, 99)
            volunteersFor(99, 0) 0
            volunteersFor(100, 0) BEYOND
            change(1, 1, 98)
            volunteersFor(99, 0) NONE
            volunteersFor(98, 0) 0
            """);
        run("18: MOOD of nobody is below v: nobody is there", """
            volunteersFor(99, 0) 0
            volunteersFor(99, 40) 0
            """);
        run("18: behind n (0 to 40) SUNDAYS", """
            people(0)
            volunteersFor(0, -1) BEYOND
            volunteersFor(50, 0) 0
            volunteersFor(98, 12) 1
            volunteersFor(99, 12) NONE
            volunteersFor(99, 13) 1
            volunteersFor(99, 40) 1
            volunteersFor(0, 41) BEYOND
            """);
        run("18: behind 40 SUNDAYS, not 39", """
            people(2)
            change(0, 1, 99)
            volunteersFor(60, 39) 0
            volunteersFor(60, 40) 1
            volunteersFor(59, 40) 0
            """);
        run("18: BEYOND. NONE, in this order", """
            people(0)
            volunteersFor(51, 0) NONE
            volunteersFor(100, 0) BEYOND
            volunteersFor(51, -1) BEYOND
            status(0) 2
            status(3) 1
            """);
    }

    private static void comeOn() {
        run("19: behind n (0 to 40) SUNDAYS; the first and the last place", """
            people(0)
            set(2, 0)
            change(0, 1, 0)
            comeOn(0, -1) BEYOND
            comeOn(0, 0) 0
            comeOn(0, 1) 0
            comeOn(0, 6) 5
            comeOn(0, 7) 0
            comeOn(0, 36) 5
            comeOn(0, 39) 2
            comeOn(0, 40) 3
            comeOn(0, 41) BEYOND
            visits(3) 0
            """);
        run("19: The place of THE LIST by SUNDAY modulo 6", """
            people(0)
            set(2, 0)
            go(5)
            comeOn(0, 1) 5
            go(1)
            comeOn(0, 1) 0
            """);
        run("19: too (perhaps it is there already)", """
            people(0)
            set(2, 0)
            change(0, 1, 0)
            visit(3, 1)
            comeOn(0, 40) 2
            list(1, 1, 1, 1, 1, 1)
            comeOn(0, 40) 0
            """);
        run("19: to VISITS, too: who is there already stays", """
            people(0, 0)
            set(0, 2)
            set(2, 0)
            list(1, 1, 0, 0, 0, 0)
            comeOn(1, 2) 0
            comeOn(1, 3) 2
            set(0, 4)
            change(1, 1, 0)
            comeOn(1, 2) 1
            """);
        run("19: a RESIDENT: the first, the last, beyond both", """
            comeOn(0, 0) BEYOND
            people(2, 2, 2, 2, 2, 2, 2, 2)
            set(2, 0)
            go(1)
            comeOn(-1, 1) BEYOND
            comeOn(0, 1) 1
            comeOn(7, 1) 1
            comeOn(8, 1) BEYOND
            """);
    }

    private static void kindFor() {
        run("20: The KIND: the first and the last one", """
            people(0, 2)
            set(2, 0)
            change(1, 2, 0)
            visit(0, 1)
            kindFor(1, 0) 0
            kindFor(1, 1) 6
            visit(0, 3)
            kindFor(1, 1) 1
            of(1, 0) 2
            """);
        run("20: behind n (0 to 40) SUNDAYS", """
            people(2)
            set(2, 0)
            kindFor(0, -1) BEYOND
            kindFor(0, 0) 0
            kindFor(0, 1) 4
            kindFor(0, 40) 4
            kindFor(0, 41) BEYOND
            """);
        run("20: behind 40 SUNDAYS, not 39", """
            people(2)
            set(0, 3)
            set(1, 0)
            set(2, 0)
            change(0, 1, 99)
            visit(3, 1)
            kindFor(0, 39) 4
            kindFor(0, 40) 1
            """);
        run("20: MOOD of it is most: 1 against 0, and 0 all over", """
            people(0)
            set(2, 0)
            change(0, 1, 1)
            kindFor(0, 1) 4
            kindFor(0, 40) 4
            change(0, 1, 0)
            kindFor(0, 40) 0
            """);
        run("20: a RESIDENT: the first, the last, beyond both", """
            kindFor(0, 0) BEYOND
            people(0, 0)
            kindFor(-1, 0) BEYOND
            kindFor(0, 0) 0
            kindFor(1, 0) 0
            kindFor(2, 0) BEYOND
            """);
    }

    private static void friendFor() {
        run("21: The FRIEND (another one): the last one, the first one", """
            people(3, 0, 0, 0, 0, 0, 0, 3)
            set(2, 0)
            visit(0, 128)
            friendFor(0, 1) 7
            visit(0, 64)
            friendFor(0, 1) 6
            friendFor(7, 1) 6
            visit(0, 1)
            friendFor(7, 1) 0
            friendFor(0, 1) 1
            of(0, 2) -1
            """);
        run("21: -1: nobody, if there is no other one", """
            people(3)
            friendFor(0, 0) -1
            friendFor(0, 40) -1
            status(-1) 0
            """);
        run("21: -1: nobody, if it is better so", """
            people(3, 0)
            set(3, 1)
            visit(0, 2)
            friendFor(0, 1) -1
            """);
        run("21: nobody, which comes last", """
            people(3, 0)
            set(3, 2)
            set(2, 0)
            friendFor(0, 1) 1
            friendFor(1, 1) 0
            """);
        run("21: behind n (0 to 40) SUNDAYS", """
            people(3, 0, 0)
            set(2, 0)
            list(2, 0, 0, 4, 0, 0)
            friendFor(0, -1) BEYOND
            friendFor(0, 0) 1
            friendFor(0, 3) 1
            change(0, 1, 0)
            friendFor(0, 39) 1
            friendFor(0, 40) 2
            friendFor(0, 41) BEYOND
            """);
        run("21: a RESIDENT: the first, the last, beyond both", """
            friendFor(0, 0) BEYOND
            people(0, 0)
            friendFor(-1, 0) BEYOND
            friendFor(0, 0) 1
            friendFor(1, 0) 0
            friendFor(2, 0) BEYOND
            """);
    }

    private static void away() {
        run("22: behind n (0 to 20) SUNDAYS", """
            people(4)
            set(1, 0)
            set(2, 0)
            set(3, 1)
            change(0, 1, 36)
            visit(1, 1)
            away(0, -1) BEYOND
            away(0, 0) NONE
            away(0, 19) NONE
            away(0, 20) 0
            away(0, 21) BEYOND
            """);
        run("22: a told one is WELL: now", """
            people(0, 0)
            change(1, 1, 60)
            away(0, 0) NONE
            away(1, 0) 0
            """);
        run("22: BEYOND. NONE, in this order", """
            away(0, 0) BEYOND
            people(0, 0)
            away(-1, 0) BEYOND
            away(2, 0) BEYOND
            away(1, 0) NONE
            away(1, 21) BEYOND
            status(0) 4
            status(3) 1
            """);
        run("22: in no VISITS of THE LIST any more", """
            people(2, 2)
            set(0, 1)
            set(2, 0)
            list(3, 3, 0, 0, 0, 0)
            away(1, 1) NONE
            away(1, 2) 1
            visits(0) 3
            visits(1) 3
            """);
        run("22: of others: the told one stays in VISITS", """
            people(2, 0)
            set(3, 1)
            change(0, 1, 57)
            visit(0, 1)
            away(0, 1) NONE
            change(0, 1, 58)
            away(0, 1) 0
            """);
    }

    private static void awayFewest() {
        run("22: The set of fewest other RESIDENTS: none, one, six, all seven; NONE", """
            people(5, 2, 2, 2, 2, 2, 2, 2)
            set(0, 7)
            set(2, 0)
            visit(0, 254)
            change(0, 1, 70)
            away(0, 1) 0
            change(0, 1, 69)
            away(0, 1) 2
            change(0, 1, 68)
            away(0, 1) 6
            change(0, 1, 64)
            away(0, 1) 126
            change(0, 1, 63)
            away(0, 1) 254
            change(0, 1, 62)
            away(0, 1) NONE
            """);
        run("22: all others of the last one", """
            people(0, 0, 0, 0, 0, 0, 0, 0)
            set(0, 2)
            set(2, 0)
            visit(0, 255)
            change(7, 1, 51)
            away(7, 1) 127
            change(7, 1, 50)
            away(7, 1) NONE
            """);
        run("22: one is fewer than two of less number; of several the least", """
            people(2, 2, 0, 0, 0)
            set(0, 6)
            set(2, 0)
            visit(0, 31)
            change(4, 1, 51)
            away(4, 1) 4
            change(0, 0, 0)
            visit(0, 29)
            away(4, 1) 1
            """);
    }
}
