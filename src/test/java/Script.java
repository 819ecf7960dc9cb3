import java.util.Arrays;
import java.util.List;
import java.util.regex.Matcher;
import java.util.regex.Pattern;

/**
 * A run of calls on one object, a row each: "set(0, 21) BEYOND" is a call and the answer that is due, a number or a
 * finding's name. A row without an answer prepares the run: it must not answer a finding. MIN and MAX are the least
 * and the most int, 0x20 is 32; "29 x feed(0, 4)" is a row that is called 29 times. Beside the calls of the face there
 * are read(TEXT): the text comes onto THE TAPE, then text(); people(k, ..): new ones of these kinds;
 * list(a, b, ..): VISITS of places 0, 1, ..; put(s, bits, a, b, ..): a sheet with these numbers.
 */
final class Script {
    private static final Pattern ROW = Pattern.compile("(?:(\\d+) x )?(\\w+)\\((.*)\\) ?(\\S*)");
    private static final List<String> FINDINGS =
        List.of("BEYOND", "FULL", "KIND", "NONE", "STATE", "MISSING", "SIZE");
    private static final int CALLS_MOST = 512;

    final SundayVisits x = new SundayVisits();
    private final Check c;
    private final String sentence;
    private int calls;
    private int callsMost = CALLS_MOST;

    private Script(Check c, String sentence) {
        this.c = c;
        this.sentence = sentence;
    }

    /** The rows on a new object, as a test of one sentence of the document. */
    static void run(Check c, String sentence, String rows) {
        new Script(c, sentence).rows(rows);
    }

    /** The same without the bound on calls: only for what no run of 512 calls can reach. */
    static void longRun(Check c, String sentence, String rows) {
        Script s = new Script(c, sentence);
        s.callsMost = Integer.MAX_VALUE;
        s.rows(rows);
    }

    /** A new object behind these rows. */
    static SundayVisits made(Check c, String rows) {
        Script s = new Script(c, "made");
        s.rows(rows);
        return s.x;
    }

    static long finding(String name) {
        return Check.BEYOND - FINDINGS.indexOf(name);
    }

    static String nameOf(long finding) {
        return FINDINGS.get((int) (Check.BEYOND - finding));
    }

    static boolean isFinding(long answer) {
        return answer <= Check.BEYOND && answer >= Check.SIZE;
    }

    /** A call as its row tells it, on any object. */
    static long callOf(SundayVisits x, String row) {
        Matcher m = matched(row);
        return Calls.call(x, m.group(2), numbers(m.group(3)));
    }

    private static Matcher matched(String row) {
        Matcher m = ROW.matcher(row);
        if (!m.matches()) {
            throw new IllegalArgumentException("no row: " + row);
        }
        return m;
    }

    private void rows(String rows) {
        for (String line : rows.split("\n")) {
            if (!line.isBlank()) {
                row(line.stripLeading());
            }
        }
        if (calls > callsMost) {
            c.fail(sentence + ": " + calls + " calls");
        }
    }

    private void row(String row) {
        Matcher m = matched(row);
        int times = m.group(1) == null ? 1 : Integer.parseInt(m.group(1));
        for (int k = 0; k < times; k++) {
            long got = answer(m.group(2), m.group(3));
            String due = m.group(4);
            if (!due.isEmpty()) {
                c.due(sentence + ": " + row, got, FINDINGS.contains(due) ? finding(due) : Long.parseLong(due));
            } else if (isFinding(got)) {
                c.fail(sentence + ": " + row + " answered " + got);
            }
        }
    }

    private long answer(String name, String inside) {
        if (name.equals("read")) {
            return read(inside);
        }
        int[] a = numbers(inside);
        switch (name) {
            case "people":
                return Arrays.stream(a).mapToLong(kind -> call("resident", kind)).min().orElse(0);
            case "list":
                return prepared("visit", a, 0);
            case "put":
                call("sheet", a[0], a[1], a.length - 2);
                return prepared("write", Arrays.copyOfRange(a, 2, a.length), a[0]);
            default:
                return call(name, a);
        }
    }

    private long prepared(String name, int[] values, int sheet) {
        long worst = 0;
        for (int i = 0; i < values.length; i++) {
            long got = name.equals("visit") ? call(name, i, values[i]) : call(name, sheet, i, values[i]);
            worst = Math.min(worst, got);
        }
        return worst;
    }

    private long read(String text) {
        for (int i = 0; i < text.length(); i += 4) {
            String piece = text.substring(i, Math.min(i + 4, text.length()));
            int bytes = 0;
            for (char sign : piece.toCharArray()) {
                bytes = bytes << 8 | sign;
            }
            call("feed", bytes, piece.length());
        }
        return call("text");
    }

    private long call(String name, int... a) {
        calls++;
        return Calls.call(x, name, a);
    }

    private static int[] numbers(String inside) {
        return Arrays.stream(inside.split(",")).map(String::strip).filter(s -> !s.isEmpty())
            .mapToInt(Script::number).toArray();
    }

    private static int number(String s) {
        switch (s) {
            case "MIN":
                return Integer.MIN_VALUE;
            case "MAX":
                return Integer.MAX_VALUE;
            default:
                return s.startsWith("0x") ? Integer.parseUnsignedInt(s.substring(2), 16) : Integer.parseInt(s);
        }
    }
}
