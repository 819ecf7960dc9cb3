/** Promises 1 to 5: a new object, the home, THE LIST. */
public final class HomeTest {
    private static final Check c = new Check();

    public static void main(String[] args) {
        newObject();
        setting();
        settingsBeyond();
        telling();
        list();
        c.end();
    }

    private static void newObject() {
        SundayVisits x = new SundayVisits();
        int[] first = {6, 11, 1, 4};
        for (int what = 0; what < 4; what++) {
            c.due("1: home(" + what + ")", x.home(what), first[what]);
        }
        for (int i = 0; i < 6; i++) {
            c.due("1: visits(" + i + ")", x.visits(i), 0);
        }
        int[] counts = {0, 0, 0, 0, 0, 0, 1, 0};
        for (int what = 0; what < 8; what++) {
            c.due("1: count(" + what + ")", x.count(what), counts[what]);
        }
        for (int which = -1; which < 7; which++) {
            c.due("1: status(" + which + ")", x.status(which), 0);
        }
        c.due("1: nobody lives there", x.of(0, 0), Check.BEYOND);
        for (int spot = 0; spot < 10; spot++) {
            c.due("1: spot " + spot + " holds nothing", x.as(spot, 0), Check.MISSING);
        }
        for (int s = 0; s < 4; s++) {
            c.due("1: sheet " + s + " is missing", x.judge(s), Check.MISSING);
        }
        c.due("1: the tape is empty", x.wipe(), 0);
        c.due("1: no image is kept", x.undo(), Check.NONE);
        c.due("1: no image to tear", x.tear(), 0);
    }

    private static void setting() {
        SundayVisits x = new SundayVisits();
        int[] was = {6, 11, 1, 4};
        int[] least = {0, 0, 0, 1};
        int[] most = {20, 20, 8, 12};
        for (int what = 0; what < 4; what++) {
            c.due("2: set(" + what + ", least)", x.set(what, least[what]), was[what]);
            c.due("3: home(" + what + ")", x.home(what), least[what]);
            c.due("2: set(" + what + ", most)", x.set(what, most[what]), least[what]);
            c.due("3: home(" + what + ")", x.home(what), most[what]);
        }
        c.due("2: no other one changed", x.home(0), 20);
        c.due("2: no finding", x.status(-1), 0);
    }

    private static void settingsBeyond() {
        SundayVisits x = new SundayVisits();
        int[][] wrong = {{-1, 5}, {4, 5}, {0, -1}, {0, 21}, {1, -1}, {1, 21}, {2, -1}, {2, 9}, {3, 0},
            {3, 13}, {Integer.MIN_VALUE, 1}, {Integer.MAX_VALUE, 1}, {0, Integer.MIN_VALUE}, {3, Integer.MAX_VALUE}};
        String before = Check.seen(x);
        for (int[] w : wrong) {
            c.due("2: set(" + w[0] + ", " + w[1] + ")", x.set(w[0], w[1]), Check.BEYOND);
        }
        c.due("2: nothing changed", before.equals(Check.seen(x)) ? 1 : 0, 1);
        c.due("43: all told", x.status(0), wrong.length);
    }

    private static void telling() {
        SundayVisits x = new SundayVisits();
        for (int what : new int[] {-1, 4, Integer.MIN_VALUE, Integer.MAX_VALUE}) {
            c.due("3: home(" + what + ")", x.home(what), Check.BEYOND);
        }
        c.due("43: all told", x.status(0), 4);
    }

    private static void list() {
        SundayVisits x = new SundayVisits();
        for (int i = 0; i < 6; i++) {
            c.due("4: visit(" + i + ", ..)", x.visit(i, 250 + i), 0);
        }
        for (int i = 0; i < 6; i++) {
            c.due("5: visits(" + i + ")", x.visits(i), 250 + i);
        }
        c.due("4: what it was", x.visit(5, 0), 255);
        c.due("5: the least set", x.visits(5), 0);
        int[][] wrong = {{-1, 0}, {6, 0}, {0, -1}, {0, 256}, {Integer.MAX_VALUE, 0}, {1, Integer.MIN_VALUE}};
        for (int[] w : wrong) {
            c.due("4: visit(" + w[0] + ", " + w[1] + ")", x.visit(w[0], w[1]), Check.BEYOND);
        }
        c.due("4: nothing changed", x.visits(0), 250);
        for (int i : new int[] {-1, 6, Integer.MIN_VALUE, Integer.MAX_VALUE}) {
            c.due("5: visits(" + i + ")", x.visits(i), Check.BEYOND);
        }
        c.due("43: all told", x.status(0), 10);
    }
}
