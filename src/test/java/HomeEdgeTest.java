/** The edges that promises 1 to 8 name, a run of calls for each sentence. */
public final class HomeEdgeTest {
    private static final Check c = new Check();

    public static void main(String[] args) {
        newObject();
        setAndHome();
        visitAndVisits();
        resident();
        of();
        change();
        c.end();
    }

    private static void run(String sentence, String rows) {
        Script.run(c, sentence, rows);
    }

    private static void newObject() {
        run("1: All as at first; no RESIDENTS", """
            home(0) 6
            home(1) 11
            home(2) 1
            home(3) 4
            count(0) 0
            count(1) 0
            count(2) 0
            count(3) 0
            count(4) 0
            count(6) 1
            count(7) 0
            of(0, 0) BEYOND
            now(6) -1
            """);
        run("1: THE TAPE is empty", """
            count(5) 0
            text() -1
            wipe() 0
            """);
        run("1: no image is kept", """
            tear() 0
            undo() NONE
            """);
        run("1: no finding was answered yet", """
            status(-1) 0
            status(0) 0
            status(6) 0
            """);
    }

    private static void setAndHome() {
        run("2: CHAIRS (what 0), CAKE (1), VOLUNTEERS (2), LONG (3): the first and the last what", """
            set(-1, 1) BEYOND
            set(0, 1) 6
            set(3, 1) 4
            set(4, 1) BEYOND
            """);
        run("2: what it was, also when it stays the same", """
            set(0, 6) 6
            set(0, 20) 6
            set(0, 20) 20
            """);
        run("2: what one may be, another may not", """
            set(2, 8) 1
            set(2, 12) BEYOND
            set(3, 12) 4
            set(3, 20) BEYOND
            set(1, 20) 11
            set(0, 0) 6
            set(1, 0) 20
            set(2, 0) 8
            set(3, 0) BEYOND
            home(3) 12
            """);
        run("3: what 0 to 3 as in set()", """
            home(-1) BEYOND
            home(0) 6
            home(3) 4
            home(4) BEYOND
            status(0) 2
            """);
    }

    private static void visitAndVisits() {
        run("4: a set, 0 to 255", """
            visit(2, 255) 0
            visit(2, 256) BEYOND
            visit(2, 0) 255
            visit(2, -1) BEYOND
            visits(2) 0
            """);
        run("4: for place i (0 to 5)", """
            visit(-1, 7) BEYOND
            visit(0, 7) 0
            visit(5, 9) 0
            visit(6, 7) BEYOND
            visits(0) 7
            visits(1) 0
            visits(4) 0
            visits(5) 9
            """);
        run("5: in a place of THE LIST", """
            list(1, 2, 4, 8, 16, 32)
            visits(-1) BEYOND
            visits(0) 1
            visits(1) 2
            visits(2) 4
            visits(3) 8
            visits(4) 16
            visits(5) 32
            visits(6) BEYOND
            """);
    }

    private static void resident() {
        run("6: A new RESIDENT: the number. BEYOND", """
            resident(-1) BEYOND
            resident(7) BEYOND
            resident(0) 0
            resident(6) 1
            of(0, 0) 0
            of(1, 0) 6
            """);
        run("6: FULL, and BEYOND ahead of it", """
            people(0, 0, 0, 0, 0, 0, 0)
            resident(6) 7
            resident(6) FULL
            resident(0) FULL
            resident(7) BEYOND
            resident(-1) BEYOND
            of(7, 0) 6
            count(1) 8
            status(0) 2
            status(1) 2
            """);
        run("6: a new one is as at first", """
            people(3)
            of(0, 1) 50
            of(0, 2) -1
            of(0, 3) 0
            of(0, 4) 0
            """);
    }

    private static void of() {
        run("7: of a RESIDENT: the first, the last, beyond both", """
            of(0, 0) BEYOND
            people(6, 0, 0, 0, 0, 0, 0, 4)
            of(-1, 0) BEYOND
            of(0, 0) 6
            of(7, 0) 4
            of(8, 0) BEYOND
            """);
        run("7: what 0 KIND .. 8 SHARES (whether it does; 1, 0)", """
            people(6, 1)
            change(1, 2, 0)
            of(0, -1) BEYOND
            of(0, 0) 6
            of(0, 8) 1
            of(1, 8) 0
            of(0, 9) BEYOND
            of(1, 2) 0
            of(0, 2) -1
            """);
        run("7: 7 LOSES (nobody being visited)", """
            people(5, 2)
            visit(0, 2)
            now(3) 2
            of(0, 7) 3
            """);
        run("7: 6 GAINS, with the least and the most LONG", """
            people(1)
            set(3, 1)
            of(0, 6) 3
            set(3, 12)
            of(0, 6) 24
            """);
    }

    private static void change() {
        run("8: of a RESIDENT: the first, the last, beyond both", """
            change(0, 1, 9) BEYOND
            people(0, 0, 0)
            change(-1, 1, 9) BEYOND
            change(0, 1, 9) 50
            change(2, 1, 9) 50
            change(3, 1, 9) BEYOND
            now(1) 68
            """);
        run("8: KIND (what 0) .. CAME (4)", """
            people(0)
            change(0, -1, 0) BEYOND
            change(0, 0, 1) 0
            change(0, 4, 1) 0
            change(0, 5, 1) BEYOND
            of(0, 0) 1
            of(0, 4) 1
            """);
        run("8: KIND: 0 to 6", """
            people(3)
            change(0, 0, 7) BEYOND
            change(0, 0, 6) 3
            change(0, 0, -1) BEYOND
            change(0, 0, 0) 6
            """);
        run("8: FRIEND (2; -1, too; not itself): the first and the last other one", """
            people(0, 0, 0, 0, 0, 0, 0, 0)
            change(0, 2, 0) BEYOND
            change(0, 2, 1) -1
            change(0, 2, 7) 1
            change(0, 2, 8) BEYOND
            change(7, 2, 7) BEYOND
            change(7, 2, 6) -1
            change(7, 2, 0) 6
            change(7, 2, -2) BEYOND
            change(7, 2, -1) 0
            of(0, 2) 7
            of(7, 2) -1
            """);
        run("8: FRIEND: one who isn't there yet", """
            people(0)
            change(0, 2, 1) BEYOND
            resident(0) 1
            change(0, 2, 1) -1
            """);
        run("8: a KIND that changes takes nothing else with it", """
            people(3, 0)
            change(0, 1, 7)
            change(0, 2, 1)
            change(0, 3, 9999)
            change(0, 4, 9999)
            change(0, 0, 4) 3
            of(0, 1) 7
            of(0, 2) 1
            of(0, 3) 9999
            of(0, 4) 9999
            """);
    }
}
