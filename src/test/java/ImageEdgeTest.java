/** The edges that promises 39 to 43 name, a run of calls for each sentence. */
public final class ImageEdgeTest {
    private static final Check c = new Check();

    public static void main(String[] args) {
        image();
        undo();
        tear();
        count();
        status();
        statusOfEach();
        c.end();
    }

    private static void run(String sentence, String rows) {
        Script.run(c, sentence, rows);
    }

    private static void image() {
        run("39: All is kept: the home and THE LIST", """
            set(0, 20)
            set(1, 0)
            set(2, 8)
            set(3, 12)
            list(1, 2, 3, 4, 5, 255)
            image() 1
            set(0, 0)
            set(1, 20)
            set(2, 0)
            set(3, 1)
            list(0, 0, 0, 0, 0, 0)
            undo() 0
            home(0) 20
            home(1) 0
            home(2) 8
            home(3) 12
            visits(0) 1
            visits(4) 5
            visits(5) 255
            """);
        run("39: All is kept: each of eight RESIDENTS with all that it has", """
            people(0, 1, 2, 3, 4, 5, 6, 6)
            change(7, 1, 99)
            change(7, 2, 0)
            change(7, 3, 9999)
            change(7, 4, 9998)
            image() 1
            change(7, 0, 0)
            change(7, 1, 0)
            change(7, 2, -1)
            change(7, 3, 0)
            change(7, 4, 0)
            change(0, 0, 6)
            undo() 0
            of(7, 0) 6
            of(7, 1) 99
            of(7, 2) 0
            of(7, 3) 9999
            of(7, 4) 9998
            of(0, 0) 0
            """);
        run("39: All is kept: SUNDAY, z, SPOTS", """
            people(0)
            go(60)
            seed(MIN)
            hold(0, 0)
            hold(9, 0)
            image() 1
            come(20)
            hold(0, -1)
            hold(9, -1)
            hold(5, 0)
            undo() 60
            now(0) 60
            count(6) -2147483648
            as(0, 0) 0
            as(9, 0) 0
            as(5, 0) MISSING
            count(7) 2
            """);
        run("39: All but THE TAPE and SHEETS", """
            people(0)
            feed(32, 4)
            put(0, 8, 50)
            put(1, 8, 50)
            image() 1
            feed(32, 3)
            write(0, 0, 49)
            sheet(1, 0, 0)
            sheet(2, 16, 0)
            undo() 0
            count(5) 7
            judge(0) 1
            judge(1) MISSING
            judge(2) 0
            wipe()
            undo() 0
            count(5) 0
            """);
        run("39: a new object is kept, too", """
            image() 1
            people(0)
            set(3, 9)
            undo() 0
            count(1) 0
            home(3) 4
            """);
    }

    private static void undo() {
        run("40: NONE: nothing is kept", """
            people(0)
            go(3)
            undo() NONE
            now(0) 3
            status(3) 1
            """);
        run("40: what was kept latest (which stays)", """
            people(0)
            image() 1
            go(1)
            image() 1
            go(1)
            undo() 1
            go(7)
            undo() 1
            undo() 1
            """);
        run("40: who came since is there no more; the next one is as at first", """
            people(0)
            image() 1
            people(5)
            change(1, 1, 9)
            change(1, 2, 0)
            change(1, 3, 9)
            change(1, 4, 9)
            hold(0, 1)
            undo() 0
            of(1, 0) BEYOND
            as(0, 0) MISSING
            hold(0, 1) BEYOND
            change(0, 2, 1) BEYOND
            resident(2) 1
            of(1, 1) 50
            of(1, 2) -1
            of(1, 3) 0
            of(1, 4) 0
            """);
        run("40: an image is what was then, whatever changes later", """
            people(0)
            image() 1
            undo() 0
            change(0, 1, 9)
            undo() 0
            of(0, 1) 50
            """);
    }

    private static void tear() {
        run("41: Nothing is kept: 1 if something was, else 0", """
            tear() 0
            image() 1
            tear() 1
            tear() 0
            undo() NONE
            image() 1
            image() 1
            undo() 0
            tear() 1
            undo() NONE
            status(3) 2
            """);
    }

    private static void count() {
        run("42: 0 SUNDAY .. 7 SPOTS. BEYOND: another what", """
            count(-1) BEYOND
            count(0) 0
            count(7) 0
            count(8) BEYOND
            status(0) 2
            """);
        run("42: each of them", """
            people(4, 4, 4)
            set(2, 0)
            go(5)
            change(0, 1, 60)
            change(1, 1, 59)
            change(2, 1, 99)
            change(0, 4, 9999)
            change(2, 4, 9999)
            feed(32, 3)
            seed(MAX)
            hold(9, 0)
            count(0) 5
            count(1) 3
            count(2) 218
            count(3) 19998
            count(4) 2
            count(5) 3
            count(6) 2147483647
            count(7) 1
            """);
        run("42: full: eight RESIDENTS, 120 bytes, ten SPOTS", """
            people(0, 0, 0, 0, 0, 0, 0, 0)
            30 x feed(32, 4)
            hold(0, 0)
            hold(1, 1)
            hold(2, 2)
            hold(3, 3)
            hold(4, 4)
            hold(5, 5)
            hold(6, 6)
            hold(7, 7)
            hold(8, 0)
            hold(9, 0)
            count(1) 8
            count(2) 400
            count(5) 120
            count(7) 10
            """);
        run("42: 6 z may be a finding's number: it is none", """
            seed(-1000001)
            count(6) -1000001
            status(-1) 0
            """);
    }

    private static void status() {
        run("43: which -1: all, 0 to 6. BEYOND (counted from then on): another one", """
            status(-1) 0
            status(6) 0
            status(7) BEYOND
            status(0) 1
            status(-2) BEYOND
            status(0) 2
            status(-1) 2
            status(MIN) BEYOND
            status(MAX) BEYOND
            status(-1) 4
            """);
        run("43: undo() takes none back; its own finding counts", """
            undo() NONE
            image()
            home(9) BEYOND
            undo() 0
            status(-1) 2
            tear()
            undo() NONE
            status(3) 2
            status(-1) 3
            """);
        run("43: many of one", """
            300 x home(9) BEYOND
            status(0) 300
            status(-1) 300
            """);
        run("43: what answers no finding isn't counted", """
            text() -1
            now(6) -1
            resident(0) 0
            of(0, 2) -1
            friendFor(0, 1) -1
            tear() 0
            status(-1) 0
            """);
    }

    private static void statusOfEach() {
        run("43: 0 to 6: BEYOND to SIZE (STATE: see the end of SUNDAYS in TermsEdgeTest)", """
            people(0, 0, 0, 0, 0, 0, 0, 0)
            hold(0, 0)
            home(4) BEYOND
            2 x resident(0) FULL
            3 x as(0, 1) KIND
            4 x undo() NONE
            6 x judge(0) MISSING
            7 x sheet(0, 8, -1) SIZE
            status(0) 1
            status(1) 2
            status(2) 3
            status(3) 4
            status(4) 0
            status(5) 6
            status(6) 7
            status(-1) 23
            """);
    }
}
