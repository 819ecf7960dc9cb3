/** The edges that promises 23 to 28 name, a run of calls for each sentence. */
public final class ToldEdgeTest {
    private static final Check c = new Check();

    public static void main(String[] args) {
        fitsAndMood();
        fortyNumbers();
        toldFindings();
        kinds();
        come();
        odds();
        oddsInAll();
        seed();
        c.end();
    }

    private static void run(String sentence, String rows) {
        Script.run(c, sentence, rows);
    }

    private static void fitsAndMood() {
        run("23, 24: MOODS (0 to 99): the most is 99", """
            people(0)
            set(2, 0)
            put(0, 8, 1, 1, 1, 1, 1, 1, 1, 1, 1, 1, 1, 1, 1, 1)
            fits(0, 0) 1
            mood(0, 0) 99
            put(0, 8, 1, 1, 1, 1, 1, 1, 1, 1, 1, 1, 1, 1, 1, 1, 1)
            fits(0, 0) 0
            mood(0, 0) NONE
            """);
        run("23, 24: MOODS (0 to 99): the least is 0", """
            people(4)
            set(2, 0)
            put(0, 8, 0)
            fits(0, 0) 60
            mood(0, 0) 0
            put(0, 8, 1)
            fits(0, 0) 40
            mood(0, 0) 60
            put(0, 8, 1, 0)
            fits(0, 0) 0
            mood(0, 0) NONE
            """);
        run("23, 24: WELL (1) or isn't (0) as a sheet tells (-1: any)", """
            people(0)
            set(2, 0)
            put(1, 16, -1)
            fits(1, 0) 100
            mood(1, 0) 0
            put(1, 16, -1, 1)
            fits(1, 0) 37
            mood(1, 0) 63
            put(1, 16, 1, -1, 0)
            fits(1, 0) 6
            mood(1, 0) 60
            put(1, 16, 2)
            fits(1, 0) 0
            mood(1, 0) NONE
            put(1, 16, -2)
            fits(1, 0) 0
            mood(1, 0) NONE
            """);
        run("23, 24: a sheet without numbers tells nothing", """
            people(0)
            sheet(0, 8, 0)
            fits(0, 0) 100
            mood(0, 0) 0
            """);
        run("23, 24: could have now, whatever it has", """
            people(0)
            put(0, 32, 1)
            change(0, 1, 0)
            fits(0, 0) 40
            change(0, 1, 99)
            fits(0, 0) 40
            mood(0, 0) 60
            of(0, 1) 99
            """);
        run("23, 24: with MOOD 70 it SHARES, below it loses 3", """
            people(0, 0)
            set(2, 0)
            change(1, 2, 0)
            list(1, 1, 1, 1, 1, 1)
            put(0, 8, 1, 1, 1, 1, 0)
            fits(0, 1) 1
            mood(0, 1) 69
            put(0, 8, 1, 1, 1, 1, 1)
            fits(0, 1) 30
            mood(0, 1) 70
            """);
    }

    /** A DREAMER gains 6 on SUNDAYS 3, 9, .. 39: six visits ahead of number 39. */
    private static void fortyNumbers() {
        run("23, 24: now and behind each SUNDAY further on: up to number 39", """
            people(4)
            set(1, 0)
            set(2, 0)
            set(3, 1)
            visit(3, 1)
            sheet(0, 8, 40)
            write(0, 39, 1)
            fits(0, 0) 0
            mood(0, 0) NONE
            sheet(1, 8, 1)
            write(1, 0, -1)
            copy(1, 0, 0, 0, 1)
            copy(0, 0, 0, 1, 1)
            copy(0, 0, 0, 2, 2)
            copy(0, 0, 0, 4, 4)
            copy(0, 0, 0, 8, 8)
            copy(0, 0, 0, 16, 16)
            copy(0, 0, 0, 32, 7)
            fits(0, 0) 76
            mood(0, 0) 24
            write(0, 39, 0)
            fits(0, 0) 24
            mood(0, 0) 0
            write(0, 38, 1)
            fits(0, 0) 0
            """);
    }

    private static void toldFindings() {
        for (String call : new String[] {"23: fits", "24: mood", "25: kinds"}) {
            String name = call.substring(4);
            run(call + ": BEYOND: no such sheet. MISSING. BEYOND: no such RESIDENT, in this order", """
                people(0, 0)
                put(3, 8, -1)
                put(0, 8, -1)
                %1$s(-1, 0) BEYOND
                %1$s(4, 0) BEYOND
                %1$s(4, 2) BEYOND
                status(0) 3
                %1$s(1, 0) MISSING
                %1$s(2, 2) MISSING
                %1$s(2, -1) MISSING
                status(5) 3
                %1$s(0, 2) BEYOND
                %1$s(3, -1) BEYOND
                %1$s(0, 0)
                %1$s(3, 1)
                status(0) 5
                status(-1) 8
                """.formatted(name));
            run(call + ": MISSING again with bits 0", """
                people(0)
                put(0, 8, -1)
                %1$s(0, 0)
                sheet(0, 0, 0) 0
                %1$s(0, 0) MISSING
                """.formatted(name));
            run(call + ": no such RESIDENT: nobody is there", """
                put(0, 8, -1)
                %1$s(0, 0) BEYOND
                """.formatted(name));
        }
    }

    private static void kinds() {
        run("25: KINDS as a set: all, none; -1: any", """
            people(0)
            set(2, 0)
            sheet(0, 8, 0)
            kinds(0, 0) 127
            put(0, 8, -1, -1)
            kinds(0, 0) 127
            put(0, 8, 50)
            kinds(0, 0) 127
            put(0, 8, 51)
            kinds(0, 0) 0
            put(0, 8, 49)
            kinds(0, 0) 0
            status(-1) 0
            """);
        run("25: MOOD of it now and behind each SUNDAY further on is as a sheet tells", """
            people(0)
            set(2, 0)
            put(0, 16, 50, 47)
            kinds(0, 0) 33
            put(0, 16, 50, 48)
            kinds(0, 0) 66
            put(0, 16, -1, 49)
            kinds(0, 0) 12
            put(0, 16, 50, -1, 50)
            kinds(0, 0) 16
            of(0, 0) 0
            """);
        run("25: MOOD held at 99 and at 0", """
            people(0, 0)
            set(2, 0)
            visit(0, 1)
            change(0, 1, 99)
            put(0, 8, 99, 99)
            kinds(0, 0) 127
            change(1, 1, 0)
            put(1, 8, 0, 0)
            kinds(1, 1) 127
            """);
        run("25: up to the last of 40 numbers", """
            people(2)
            set(2, 0)
            change(0, 1, 39)
            sheet(0, 8, 40)
            write(0, 0, 39)
            write(0, 1, -1)
            copy(0, 1, 0, 2, 1)
            copy(0, 1, 0, 3, 2)
            copy(0, 1, 0, 5, 4)
            copy(0, 1, 0, 9, 8)
            copy(0, 1, 0, 17, 16)
            copy(0, 1, 0, 33, 7)
            kinds(0, 0) 127
            write(0, 38, 1)
            kinds(0, 0) 4
            write(0, 39, 1)
            kinds(0, 0) 0
            """);
    }

    private static void come() {
        run("26: n times (1 to 20)", """
            come(0) BEYOND
            come(-1) BEYOND
            come(21) BEYOND
            count(6) 1
            now(0) 0
            come(1) 0
            now(0) 1
            come(20) 0
            now(0) 21
            status(0) 3
            """);
        run("26: THE LIST tells for this SUNDAY: the last place, then the first one again", """
            go(5)
            come(2)
            visits(4) 0
            visits(5) 126
            visits(1) 0
            now(0) 7
            """);
        run("26: the first one's rest by 256: 255 are all; LONG is 12", """
            people(2, 2, 2, 2, 2, 2, 2, 2)
            set(0, 8)
            set(1, 0)
            seed(-660)
            come(1) 448
            visits(0) 255
            home(3) 12
            now(7) 8
            """);
        run("26: the first one's rest by 256: 0 is nobody; LONG is 1", """
            people(2, 2, 2, 2, 2, 2, 2, 2)
            set(2, 0)
            visit(0, 255)
            seed(-376)
            come(1) 392
            visits(0) 0
            home(3) 1
            now(7) 0
            """);
    }

    private static void odds() {
        run("27: n (0 to 7)", """
            people(0)
            odds(0, -1, 0) BEYOND
            odds(0, -1, 1) BEYOND
            odds(0, 0, 0) 1
            odds(0, 0, 1) 1
            odds(0, 7, 0) 1
            odds(0, 7, 1) 128
            odds(0, 8, 0) BEYOND
            odds(0, 8, 1) BEYOND
            """);
        run("27: above (what 0), below the line (1)", """
            people(0)
            odds(0, 1, -1) BEYOND
            odds(0, 1, 0) 1
            odds(0, 1, 1) 2
            odds(0, 1, 2) BEYOND
            """);
        run("27: a RESIDENT: the first, the last, beyond both", """
            odds(0, 0, 0) BEYOND
            people(2, 2)
            odds(-1, 0, 0) BEYOND
            odds(0, 0, 0) 1
            odds(1, 0, 0) 1
            odds(2, 0, 0) BEYOND
            """);
        run("27: a fraction in lowest terms: never is 0 of 1, none of none is 1 of 1", """
            people(0)
            set(0, 1)
            odds(0, 1, 0) 0
            odds(0, 1, 1) 1
            odds(0, 7, 0) 0
            odds(0, 7, 1) 1
            odds(0, 0, 0) 1
            odds(0, 0, 1) 1
            """);
    }

    private static void oddsInAll() {
        run("27: with CHAIRS as they are: just enough, one too few", """
            people(2, 2, 2, 2, 2, 2, 2, 2)
            set(0, 8)
            odds(7, 1, 0) 1
            odds(7, 1, 1) 2
            set(0, 7)
            odds(7, 1, 0) 127
            odds(7, 1, 1) 256
            odds(7, 7, 0) 532875860165503
            odds(7, 7, 1) 72057594037927936
            set(0, 1)
            odds(7, 1, 0) 1
            odds(7, 1, 1) 256
            odds(7, 7, 0) 1
            odds(7, 7, 1) 72057594037927936
            set(0, 0)
            odds(7, 1, 0) 0
            odds(7, 1, 1) 1
            """);
        run("27: as in (1): neither THE LIST nor SUNDAY nor z counts or changes", """
            people(0, 0)
            set(0, 2)
            odds(1, 2, 0) 1
            odds(1, 2, 1) 16
            visit(0, 255)
            go(1)
            seed(9)
            odds(1, 2, 0) 1
            odds(1, 2, 1) 16
            count(6) 9
            """);
    }

    private static void seed() {
        run("28: z becomes v: any int, a finding's number too", """
            seed(MIN) 1
            seed(MAX) -2147483648
            seed(0) 2147483647
            seed(-1000001) 0
            seed(-1000007) -1000001
            count(6) -1000007
            status(-1) 0
            """);
    }
}
