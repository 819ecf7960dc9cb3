import java.util.ArrayList;
import java.util.Arrays;
import java.util.List;
import java.util.Random;

/** All promises: runs of drawn calls, each answer compared with the model's. The draws are the same each time. */
public final class ModelTest {
    private static final Check c = new Check();
    private static final int RUNS = 80;
    private static final int CALLS = 400;

    /** Least and most of what each parameter may be; a little beyond both is drawn, too. */
    private static final Object[][] RANGES = {
        {"set", 0, 3, 0, 20}, {"home", 0, 3}, {"visit", 0, 5, 0, 255}, {"visits", 0, 5}, {"resident", 0, 6},
        {"of", 0, 7, 0, 8}, {"change", 0, 7, 0, 4, 0, 99}, {"go", 1, 60}, {"now", 0, 7}, {"ahead", 0, 7, 1, 4, 0, 100},
        {"glad", 0, 7, 0, 99}, {"sad", 0, 7, 0, 99}, {"when", 0, 7, 0, 40}, {"well"}, {"longFor", 0, 40},
        {"chairsFor", 0, 60, 0, 40}, {"volunteersFor", 0, 99, 0, 40}, {"comeOn", 0, 7, 0, 40}, {"kindFor", 0, 7, 0, 40},
        {"friendFor", 0, 7, 0, 40}, {"away", 0, 7, 0, 20}, {"fits", 0, 3, 0, 7}, {"mood", 0, 3, 0, 7},
        {"kinds", 0, 3, 0, 7}, {"come", 1, 20}, {"odds", 0, 7, 0, 7, 0, 1}, {"seed", -9, 9}, {"feed", 0, 255, 1, 4},
        {"wipe"}, {"text"}, {"hold", 0, 9, 0, 7}, {"as", 0, 9, 0, 6}, {"sheet", 0, 3, 0, 32, 0, 40},
        {"write", 0, 3, 0, 9, -1, 1}, {"copy", 0, 3, 0, 9, 0, 3, 0, 9, 0, 9}, {"load", 0, 3}, {"judge", 0, 3},
        {"image"}, {"undo"}, {"tear"}, {"count", 0, 7}, {"status", -1, 6}};

    private static final String[] PIECES = {"resident", "lively", "sleeper", "vague", "dreamer", "watcher", "granny",
        "mood", "friend", "waits", "visits", "chairs", "cake", "volunteers", "long", ";", ";", ";", " ", "  ", "uncle",
        "0", "1", "2", "5", "6", "8", "9", "12", "20", "99", "100", "255", "9999", "10000", "007", "!", "A"};

    private final Random draws;
    private final SundayVisits x = new SundayVisits();
    private final Model model = new Model();
    private final List<String> said = new ArrayList<>();
    private int wrong;

    private ModelTest(long seed) {
        draws = new Random(seed);
    }

    public static void main(String[] args) {
        int runs = args.length > 0 ? Integer.parseInt(args[0]) : RUNS;
        for (int run = 0; run < runs; run++) {
            new ModelTest(run).go();
        }
        c.end();
    }

    private void go() {
        int people = draws.nextInt(9);
        for (int r = 0; r < people; r++) {
            both("resident", draws.nextInt(7));
        }
        for (int i = 0; i < 6; i++) {
            both("visit", i, draws.nextInt(256));
        }
        while (said.size() < CALLS && wrong == 0) {
            int kind = draws.nextInt(20);
            if (kind == 0) {
                feedText();
            } else if (kind == 1) {
                fillSheet();
            } else if (kind == 2) {
                changeSome();
            } else {
                anyCall();
            }
        }
    }

    private void anyCall() {
        Object[] row = RANGES[draws.nextInt(RANGES.length)];
        int[] a = new int[(row.length - 1) / 2];
        for (int i = 0; i < a.length; i++) {
            a[i] = drawn((Integer) row[1 + 2 * i], (Integer) row[2 + 2 * i]);
        }
        String name = (String) row[0];
        if (name.equals("sheet") && draws.nextInt(4) > 0) {
            a[1] = 8 << draws.nextInt(3);
        }
        both(name, a);
    }

    private int drawn(int least, int most) {
        int kind = draws.nextInt(40);
        if (kind == 0) {
            return draws.nextInt();
        }
        if (kind == 1) {
            return new int[] {Integer.MIN_VALUE, Integer.MAX_VALUE, least - 1, most + 1}[draws.nextInt(4)];
        }
        if (kind < 6) {
            return draws.nextBoolean() ? least : most;
        }
        return least + draws.nextInt(most - least + 1);
    }

    private void changeSome() {
        int r = draws.nextInt(8);
        both("change", r, 0, draws.nextInt(7));
        both("change", r, 1, draws.nextInt(100));
        both("change", r, 2, draws.nextInt(9) - 1);
        both("change", r, 3, draws.nextInt(4) == 0 ? 9990 + draws.nextInt(10) : draws.nextInt(10));
        both("change", r, 4, draws.nextInt(4) == 0 ? 9990 + draws.nextInt(10) : draws.nextInt(10));
    }

    private void fillSheet() {
        int s = draws.nextInt(4);
        int n = draws.nextInt(9);
        int r = draws.nextInt(8);
        int way = draws.nextInt(4);
        both("sheet", s, 8 << draws.nextInt(3), n);
        for (int i = 0; i < n; i++) {
            int mood = (int) both("ahead", r, 1, i);
            int v = way == 0 ? mood : way == 1 ? (mood >= 60 ? 1 : 0) : way == 2 ? draws.nextInt(300) : -1;
            both("write", s, i, draws.nextInt(3) == 0 ? -1 : v);
        }
        both("fits", s, r);
        both("mood", s, r);
        both("kinds", s, r);
        both(draws.nextBoolean() ? "load" : "judge", s);
    }

    private void feedText() {
        StringBuilder text = new StringBuilder();
        boolean sound = draws.nextInt(3) > 0;
        int pieces = 1 + draws.nextInt(5);
        for (int i = 0; i < pieces; i++) {
            text.append(i == 0 ? "" : ";").append(sound ? item() : "");
            while (!sound && draws.nextInt(4) > 0) {
                text.append(PIECES[draws.nextInt(PIECES.length)]).append(draws.nextBoolean() ? " " : "");
            }
        }
        if (draws.nextInt(4) == 0 && text.length() > 0) {
            text.setCharAt(draws.nextInt(text.length()), (char) draws.nextInt(256));
        }
        both("wipe");
        int i = 0;
        while (i < text.length()) {
            int n = Math.min(4, text.length() - i);
            int v = draws.nextInt();
            for (int k = 0; k < n; k++) {
                v = v << 8 | text.charAt(i + k);
            }
            both("feed", v, n);
            i += n;
        }
        both("text");
    }

    private String item() {
        int kind = draws.nextInt(12);
        if (kind == 7) {
            return "visits " + draws.nextInt(6) + " " + draws.nextInt(256);
        }
        if (kind > 7) {
            int what = kind - 8;
            return PIECES[11 + what] + " " + (1 + draws.nextInt(Model.HOME_MOST[what]));
        }
        return PIECES[kind] + (draws.nextBoolean() ? " mood " + draws.nextInt(100) : "")
            + (draws.nextInt(3) == 0 ? " friend " + draws.nextInt(3) : "")
            + (draws.nextBoolean() ? " waits " + draws.nextInt(9) : "");
    }

    private long both(String name, int... a) {
        if (said.size() >= 512) {
            return 0;
        }
        said.add(name + Arrays.toString(a));
        long want = model.call(name, a);
        long got;
        try {
            got = Calls.call(x, name, a);
        } catch (IllegalStateException e) {
            wrong++;
            c.fail(e.getMessage() + " behind " + said);
            return want;
        }
        if (got != want) {
            wrong++;
            c.due("behind " + said, got, want);
        }
        return want;
    }
}
