/** The edges that promises 29 to 31 and the third of the "Terms" name, a run of calls for each sentence. */
public final class TextEdgeTest {
    private static final Check c = new Check();

    public static void main(String[] args) {
        feed();
        feedFull();
        wipe();
        textTakesAll();
        tokens();
        numbers();
        blanks();
        items();
        residentItems();
        homeItems();
        faultPlaces();
        faultEnds();
        ninthOne();
        bytesOfNoToken();
        c.end();
    }

    private static void run(String sentence, String rows) {
        Script.run(c, sentence, rows);
    }

    private static void feed() {
        run("29: n 1 to 4. BEYOND: n", """
            feed(32, 0) BEYOND
            feed(32, -1) BEYOND
            feed(32, 1) 1
            feed(32, 4) 5
            feed(32, 5) BEYOND
            count(5) 5
            """);
        run("29: the n lowest bytes of a number, the highest of these first: four, two, one", """
            feed(0x63616b65, 4) 4
            feed(0xff782037, 2) 6
            text() 1
            home(1) 7
            feed(0x78786c6f, 2) 2
            feed(0xffff6e67, 2) 4
            feed(0x78787832, 1) 5
            text() 1
            home(3) 2
            """);
        run("29: the n lowest bytes of a number, the highest of these first: three", """
            feed(0x786c6f6e, 3) 3
            feed(0xffffff67, 1) 4
            feed(0x80203132, 3) 7
            text() 1
            home(3) 12
            """);
    }

    private static void feedFull() {
        for (int n = 1; n <= 4; n++) {
            run("29: THE TAPE (bytes, at most 120): " + n + " bytes fit, one more doesn't. FULL", """
                29 x feed(0x20202020, 4)
                %4$d x feed(32, 1)
                count(5) %1$d
                feed(0x20202020, %2$d) 120
                feed(0x20202020, %2$d) FULL
                feed(32, 1) FULL
                count(5) 120
                status(1) 2
                wipe() 120
                29 x feed(0x20202020, 4)
                %3$d x feed(32, 1)
                feed(0x20202020, %2$d) FULL
                count(5) %5$d
                """.formatted(120 - n, n, 5 - n, 4 - n, 121 - n));
        }
        run("29: BEYOND: n. FULL, in this order", """
            30 x feed(0x20202020, 4)
            feed(32, 5) BEYOND
            feed(32, 0) BEYOND
            feed(32, 4) FULL
            status(0) 2
            status(1) 1
            """);
    }

    private static void wipe() {
        run("30: how many it had: none, some, 120", """
            wipe() 0
            feed(32, 1)
            wipe() 1
            wipe() 0
            30 x feed(0x20202020, 4)
            wipe() 120
            count(5) 0
            feed(32, 4) 4
            """);
    }

    private static void textTakesAll() {
        run("31: THE TAPE is a TEXT, and empty then", """
            read(long 3) 1
            count(5) 0
            home(3) 3
            text() -1
            home(3) 3
            """);
        run("31: -1 less the FAULT (nothing changes but that THE TAPE is empty; no finding)", """
            read(long 3;cake 21) -13
            count(5) 0
            home(3) 4
            status(-1) 0
            """);
        run("31: how many ITEMS: of 120 bytes, the most that there can be", """
            read(%1$slong12) 20
            home(3) 12
            read(%1$slong13) -119
            home(3) 12
            read(%1$slong 3) 20
            home(3) 3
            read(%1$slong 0) -120
            read(%1$svisits) -121
            home(3) 3
            """.formatted("long1;".repeat(19)));
        run("31: item by item: the latest counts", """
            read(long 3;long 5;long 4) 3
            home(3) 4
            read(visits 2 7;visits 2 9) 2
            visits(2) 9
            """);
    }

    private static void tokens() {
        run("TOKENS, each as long as can be: WORDS (letters a to z)", """
            read(vaguemood 3) -1
            read(vagues) -1
            read(vagu) -1
            read(vague moods 3) -7
            read(vague moo 3) -7
            read(avague) -1
            read(zvague) -1
            read(vaguea) -1
            read(vaguez) -1
            read(bague) -1
            read(vagud) -1
            """);
        run("TOKENS, each as long as can be: NUMBERS (digits)", """
            read(visits 012) -8
            read(visits 33) -8
            read(visits 3 3) 1
            read(long 1 2) -8
            read(long 12) 1
            """);
        run("TOKENS: WORDS and NUMBERS need no blank between them", """
            read(vague mood9waits9;long3) 2
            of(0, 1) 9
            of(0, 3) 9
            home(3) 3
            read(3long) -1
            read(long3long) -6
            """);
    }

    private static void numbers() {
        run("NUMBERS (digits, 9999 at most)", """
            read(vague waits 9999) 1
            of(0, 3) 9999
            read(vague waits 10000) -13
            read(vague waits 99999) -13
            read(vague waits 09999) 1
            of(1, 3) 9999
            read(vague waits 010000) -13
            """);
        run("NUMBERS: of many digits", """
            read(long 000000000000000000000000000000000000000012) 1
            home(3) 12
            read(long 4294967297) -6
            read(long 18446744073709551617) -6
            read(long 100000000000000000000000000000000000000003) -6
            read(long 00) -6
            read(cake 00) 1
            home(1) 0
            """);
    }

    private static void blanks() {
        run("blanks may stand between", """
            read(  long   3  ;  cake   4  ) 2
            home(3) 3
            home(1) 4
            read( visits  5  255 ) 1
            visits(5) 255
            read(visits 5255) -8
            """);
        run("blanks may not stand in a TOKEN", """
            read(lo ng 3) -1
            read(long 1 2) -8
            """);
    }

    private static void items() {
        run("TEXT: ITEM { ; ITEM }: one, two, none", """
            read(long 3) 1
            read(long 3;long 4) 2
            read() -1
            read(;) -1
            read(long 3;) -8
            read(long 3;;long 4) -8
            read(;long 3) -1
            read(long 3 long 4) -8
            """);
    }

    private static void residentItems() {
        run("ITEM: all seven WORDS of KINDS", """
            read(resident;lively;sleeper;vague;dreamer;watcher;granny) 7
            of(0, 0) 0
            of(1, 0) 1
            of(2, 0) 2
            of(3, 0) 3
            of(4, 0) 4
            of(5, 0) 5
            of(6, 0) 6
            """);
        run("ITEM: perhaps mood and a NUMBER (0 to 99)", """
            read(vague mood 0) 1
            read(vague mood 99) 1
            read(vague) 1
            read(vague mood 100) -12
            of(0, 1) 0
            of(1, 1) 99
            of(2, 1) 50
            count(1) 3
            """);
        run("ITEM: perhaps friend and a NUMBER (one who is there already)", """
            read(vague friend 0) -14
            read(vague;vague friend 0) 2
            of(1, 2) 0
            read(vague friend 1) 1
            of(2, 2) 1
            read(vague friend 3) -14
            read(vague friend 4) -14
            read(vague;vague friend 3) 2
            of(3, 2) -1
            of(4, 2) 3
            read(vague;vague friend 6) -20
            count(1) 5
            """);
        run("ITEM: perhaps waits and a NUMBER (0 to 9999)", """
            read(vague waits 0) 1
            read(vague waits 9999) 1
            read(vague waits 10000) -13
            of(0, 3) 0
            of(1, 3) 9999
            of(1, 4) 0
            """);
        run("ITEM: mood, friend, waits in this order alone, each once", """
            read(vague;vague mood 1 friend 0 waits 2) 2
            read(vague waits 1 mood 1) -15
            read(vague waits 1 friend 0) -15
            read(vague friend 0 mood 1) -16
            read(vague mood 1 mood 2) -14
            read(vague friend 0 friend 0) -16
            read(vague waits 1 waits 1) -15
            count(1) 2
            """);
    }

    private static void homeItems() {
        run("ITEM: visits, two NUMBERS (0 to 5, 0 to 255)", """
            read(visits 0 0) 1
            read(visits 5 255) 1
            visits(5) 255
            read(visits 6 0) -8
            read(visits 0 256) -10
            read(visits 5 0) 1
            visits(5) 0
            read(visits 0 255) 1
            visits(0) 255
            """);
        run("ITEM: chairs or cake, a NUMBER (0 to 20)", """
            read(chairs 0;cake 0) 2
            home(0) 0
            home(1) 0
            read(chairs 20;cake 20) 2
            home(0) 20
            home(1) 20
            read(chairs 21) -8
            read(cake 21) -6
            """);
        run("ITEM: volunteers, a NUMBER (0 to 8)", """
            read(volunteers 0) 1
            home(2) 0
            read(volunteers 8) 1
            home(2) 8
            read(volunteers 9) -12
            """);
        run("ITEM: long, a NUMBER (1 to 12)", """
            read(long 1) 1
            home(3) 1
            read(long 12) 1
            home(3) 12
            read(long 0) -6
            read(long 13) -6
            """);
    }

    private static void faultPlaces() {
        run("FAULT: the place (from 0) of the first byte of the first TOKEN that can't stand there", """
            read(uncle) -1
            read(  uncle) -3
            read(long uncle) -6
            read(long ;) -6
            read(long  21) -7
            read(long 3 ;  uncle) -11
            read(vague 7) -7
            read(vague;mood 3) -7
            read(chairs 21;uncle) -8
            read(chairs 1;uncle;cake 21) -10
            """);
    }

    private static void faultEnds() {
        run("FAULT: or how many bytes there are if it ends too early", """
            text() -1
            read( ) -2
            read(long) -5
            read(long  ) -7
            read(visits) -7
            read(visits 3) -9
            read(visits 3 ) -10
            read(vague mood) -11
            read(vague friend) -13
            read(vague waits ) -13
            read(long 3;) -8
            read(long 3; ) -9
            30 x feed(0x20202020, 4)
            text() -121
            """);
    }

    private static void ninthOne() {
        run("FAULT: the WORD of a 9th one: its own", """
            people(0, 0, 0, 0, 0, 0, 0)
            read(vague;vague) -7
            count(1) 7
            read(vague) 1
            count(1) 8
            read(vague) -1
            read(long 3; vague mood 100) -9
            read(uncle;vague) -1
            read(long 3) 1
            status(-1) 0
            """);
        run("FAULT: the 9th one of one TEXT", """
            read(vague;vague;vague;vague;vague;vague;vague;vague friend 6) 8
            of(7, 2) 6
            """);
        run("FAULT: the 9th one of one TEXT: nothing changes", """
            read(vague;vague;vague;vague;vague;vague;vague;vague;vague) -49
            count(1) 0
            """);
    }

    /** The bytes beside letters, digits, sign and blank, and the least and the most one. */
    private static void bytesOfNoToken() {
        int[] signs = {0, 9, 10, 13, 31, 33, '/', ':', '<', '@', 'A', 'Z', '[', '`', '{', 127, 128, 160, 225, 255};
        for (int sign : signs) {
            SundayVisits x = new SundayVisits();
            c.due("FAULT: a byte that begins no TOKEN: " + sign, Check.read(x, "long 3" + (char) sign), -7);
            c.due("FAULT: a byte that begins no TOKEN: " + sign, Check.read(x, (char) sign + "long 3"), -1);
            c.due("FAULT: a byte that begins no TOKEN: " + sign, Check.read(x, "long " + (char) sign + "3"), -6);
            c.due("31: nothing changes", x.home(3), 4);
            c.due("31: no finding", x.status(-1), 0);
        }
    }
}
