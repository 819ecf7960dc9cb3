/** Counts the answers that are not as due; the project's tests end through it. */
final class Check {
    static final int BEYOND = -1000001;
    static final int FULL = -1000002;
    static final int KIND = -1000003;
    static final int NONE = -1000004;
    static final int STATE = -1000005;
    static final int MISSING = -1000006;
    static final int SIZE = -1000007;

    static final int RESIDENT = 0;
    static final int LIVELY = 1;
    static final int SLEEPER = 2;
    static final int VAGUE = 3;
    static final int DREAMER = 4;
    static final int WATCHER = 5;
    static final int GRANNY = 6;

    private int wrong;

    void due(String what, long got, long want) {
        if (got != want) {
            wrong++;
            System.out.println(what + " answered " + got + ", due is " + want);
        }
    }

    void fail(String what) {
        wrong++;
        System.out.println(what);
    }

    void end() {
        if (wrong > 0) {
            System.out.println(wrong + " answers are not as due");
            System.exit(1);
        }
    }

    /** A home with one resident of each of the kinds, in their order. */
    static SundayVisits homeOf(int... kinds) {
        SundayVisits x = new SundayVisits();
        for (int kind : kinds) {
            x.resident(kind);
        }
        return x;
    }

    /** The text comes onto the tape byte by byte; what text() answers. */
    static int read(SundayVisits x, String text) {
        for (int i = 0; i < text.length(); i++) {
            x.feed(text.charAt(i), 1);
        }
        return x.text();
    }

    static void sheetOf(SundayVisits x, int s, int bits, int... numbers) {
        x.sheet(s, bits, numbers.length);
        for (int i = 0; i < numbers.length; i++) {
            x.write(s, i, numbers[i]);
        }
    }

    /** All that can be seen of an object without a finding, as one text. */
    static String seen(SundayVisits x) {
        StringBuilder s = new StringBuilder();
        for (int what = 0; what < 4; what++) {
            s.append(x.home(what)).append(' ');
        }
        for (int i = 0; i < 6; i++) {
            s.append(x.visits(i)).append(' ');
        }
        for (int r = 0; r < x.count(1); r++) {
            for (int what = 0; what < 5; what++) {
                s.append(x.of(r, what)).append(' ');
            }
        }
        for (int what = 0; what < 8; what++) {
            s.append(x.count(what)).append(' ');
        }
        return s.toString();
    }
}
