import java.math.BigInteger;
import java.util.ArrayList;
import java.util.Arrays;
import java.util.Comparator;
import java.util.List;
import java.util.function.IntPredicate;
import java.util.function.ToIntFunction;
import java.util.regex.Matcher;
import java.util.regex.Pattern;
import java.util.stream.IntStream;

/** The document told a second time, with the Java library and without a thought of speed or room. */
final class Model {
    static final class Finding extends RuntimeException {
        private static final long serialVersionUID = 1;
        final int place;

        Finding(int place) {
            super(null, null, false, false);
            this.place = place;
        }
    }

    static final class Fault extends RuntimeException {
        private static final long serialVersionUID = 1;
        final int at;

        Fault(int at) {
            super(null, null, false, false);
            this.at = at;
        }
    }

    static class Plain {
        int seats() {
            return 2;
        }

        int gains(int length) {
            return Math.min(12, 2 * length);
        }

        int loses(Person p, int visited) {
            return 3;
        }

        boolean shares(Person p) {
            return p.mood >= 70;
        }
    }

    static class Lively extends Plain {
        @Override int seats() {
            return super.seats() + 1;
        }

        @Override int gains(int length) {
            return super.gains(length) + length;
        }

        @Override int loses(Person p, int visited) {
            return super.loses(p, visited) - 1;
        }
    }

    static class Granny extends Lively {
        @Override int seats() {
            return super.seats() + 1;
        }

        @Override boolean shares(Person p) {
            return true;
        }
    }

    static class Sleeper extends Plain {
        @Override int seats() {
            return 1;
        }

        @Override int gains(int length) {
            return super.gains(length) / 2;
        }

        @Override int loses(Person p, int visited) {
            return super.loses(p, visited) - 2;
        }
    }

    static class Vague extends Sleeper {
        @Override int gains(int length) {
            return super.gains(length) + 5;
        }

        @Override int loses(Person p, int visited) {
            return super.loses(p, visited) + (p.waits >= 4 ? 1 : 0);
        }

        @Override boolean shares(Person p) {
            return true;
        }
    }

    static class Dreamer extends Vague {
        @Override int loses(Person p, int visited) {
            return 0;
        }

        @Override boolean shares(Person p) {
            return false;
        }
    }

    static class Watcher extends Plain {
        @Override int gains(int length) {
            return super.gains(length) - (length > 6 ? 2 : 0);
        }

        @Override int loses(Person p, int visited) {
            return super.loses(p, visited) + visited;
        }
    }

    static final List<Plain> KINDS = List.of(new Plain(), new Lively(), new Sleeper(), new Vague(), new Dreamer(),
        new Watcher(), new Granny());
    static final List<String> KIND_WORDS = List.of("resident", "lively", "sleeper", "vague", "dreamer", "watcher",
        "granny");
    static final List<String> HOME_WORDS = List.of("chairs", "cake", "volunteers", "long");
    static final int[] HOME_LEAST = {0, 0, 0, 1};
    static final int[] HOME_MOST = {20, 20, 8, 12};

    static final class Person {
        final int number;
        int kind;
        int mood = 50;
        int friend = -1;
        int waits;
        int came;

        Person(int number, int kind) {
            this.number = number;
            this.kind = kind;
        }

        Person twin() {
            Person p = new Person(number, kind);
            p.mood = mood;
            p.friend = friend;
            p.waits = waits;
            p.came = came;
            return p;
        }

        Plain as() {
            return KINDS.get(kind);
        }

        boolean well() {
            return mood >= 60;
        }
    }

    static final class World {
        int[] home = {6, 11, 1, 4};
        int[] list = new int[6];
        List<Person> people = new ArrayList<>();
        int[] spots = IntStream.generate(() -> -1).limit(10).toArray();
        int sunday;
        int z = 1;

        World twin() {
            World w = new World();
            w.home = home.clone();
            w.list = list.clone();
            w.spots = spots.clone();
            people.forEach(p -> w.people.add(p.twin()));
            w.sunday = sunday;
            w.z = z;
            return w;
        }

        World behind(int n) {
            World w = twin();
            for (int i = 0; i < n; i++) {
                w.day();
            }
            return w;
        }

        List<Person> visited(int set) {
            List<Person> seated = new ArrayList<>();
            for (Person p : people) {
                int taken = seated.stream().mapToInt(q -> q.as().seats()).sum();
                if ((set & 1 << p.number) != 0 && home[0] - taken >= p.as().seats()) {
                    seated.add(p);
                }
            }
            return seated;
        }

        List<Person> visitedNow() {
            return visited(list[sunday % 6]);
        }

        List<Person> sharing() {
            List<Person> seated = visitedNow();
            return people.stream().filter(p -> !seated.contains(p)
                && p.friend >= 0 && seated.contains(people.get(p.friend)) && p.as().shares(p)).toList();
        }

        List<Person> helped() {
            List<Person> seated = visitedNow();
            List<Person> along = sharing();
            return people.stream().filter(p -> !seated.contains(p) && !along.contains(p))
                .sorted(Comparator.comparingInt((Person p) -> -p.waits).thenComparingInt(p -> p.number))
                .limit(home[2]).toList();
        }

        void day() {
            List<Person> seated = visitedNow();
            List<Person> along = sharing();
            List<Person> byList = helped();
            for (Person p : people) {
                int gain = p.as().gains(home[3]);
                if (seated.contains(p)) {
                    p.mood += gain + (seated.indexOf(p) < home[1] ? 1 : 0);
                    p.waits = -1;
                    p.came = Math.min(9999, p.came + 1);
                } else if (along.contains(p)) {
                    p.mood += gain / 2;
                } else if (byList.contains(p)) {
                    p.mood += 4;
                    p.waits = -1;
                } else {
                    p.mood -= p.as().loses(p, seated.size());
                }
                p.mood = Math.min(99, Math.max(0, p.mood));
                p.waits = Math.min(9999, p.waits + 1);
            }
            sunday = Math.min(99999, sunday + 1);
        }

        int moods() {
            return people.stream().mapToInt(p -> p.mood).sum();
        }

        int came() {
            return people.stream().mapToInt(p -> p.came).sum();
        }

        int draw() {
            z = z * 1103515245 + 12345;
            return z >>> 8;
        }
    }

    private World w = new World();
    private World kept;
    private List<Integer> tape = new ArrayList<>();
    private final int[] bits = new int[4];
    private final int[][] sheets = new int[4][0];
    private final int[] told = new int[7];

    /** What the call answers; a finding is counted. */
    long call(String name, int... a) {
        try {
            return answer(name, a);
        } catch (Finding f) {
            told[f.place]++;
            return -1000001 - f.place;
        }
    }

    private static void demand(boolean so, int place) {
        if (!so) {
            throw new Finding(place);
        }
    }

    private static void range(int v, int least, int most) {
        demand(v >= least && v <= most, 0);
    }

    private Person person(int r) {
        range(r, 0, w.people.size() - 1);
        return w.people.get(r);
    }

    private static int set(List<Person> some) {
        return some.stream().mapToInt(p -> 1 << p.number).sum();
    }

    private int first(IntPredicate good, int least, int most) {
        int found = IntStream.rangeClosed(least, most).filter(good).findFirst().orElse(-1);
        demand(found >= 0, 3);
        return found;
    }

    private static int best(List<Integer> choices, ToIntFunction<Integer> worth) {
        int most = choices.stream().mapToInt(worth).max().orElseThrow();
        return choices.stream().filter(x -> worth.applyAsInt(x) == most).findFirst().orElseThrow();
    }

    private static List<Integer> upTo(int least, int most) {
        return IntStream.rangeClosed(least, most).boxed().toList();
    }

    private long answer(String name, int[] a) {
        switch (name) {
            case "set": case "home": case "visit": case "visits": case "resident": case "of": case "change":
                return homeCall(name, a);
            case "go": case "now": case "ahead": case "glad": case "sad": case "when": case "well":
                return sundayCall(name, a);
            case "longFor": case "chairsFor": case "volunteersFor": case "comeOn": case "kindFor": case "friendFor":
            case "away":
                return planCall(name, a);
            case "fits": case "mood": case "kinds":
                return toldCall(name, a);
            case "come": case "odds": case "seed":
                return drawCall(name, a);
            case "feed": case "wipe": case "text":
                return tapeCall(name, a);
            case "hold": case "as":
                return spotCall(name, a);
            case "sheet": case "write": case "copy": case "load": case "judge":
                return sheetCall(name, a);
            default:
                return imageCall(name, a);
        }
    }

    private long homeCall(String name, int[] a) {
        int was;
        switch (name) {
            case "set":
                range(a[0], 0, 3);
                range(a[1], HOME_LEAST[a[0]], HOME_MOST[a[0]]);
                was = w.home[a[0]];
                w.home[a[0]] = a[1];
                return was;
            case "home":
                range(a[0], 0, 3);
                return w.home[a[0]];
            case "visit":
                range(a[0], 0, 5);
                range(a[1], 0, 255);
                was = w.list[a[0]];
                w.list[a[0]] = a[1];
                return was;
            case "visits":
                range(a[0], 0, 5);
                return w.list[a[0]];
            case "resident":
                range(a[0], 0, 6);
                demand(w.people.size() < 8, 1);
                w.people.add(new Person(w.people.size(), a[0]));
                return w.people.size() - 1;
            case "of":
                range(a[1], 0, 8);
                return fact(person(a[0]), a[1]);
            default:
                return change(person(a[0]), a[1], a[2]);
        }
    }

    private int fact(Person p, int what) {
        int[] facts = {p.kind, p.mood, p.friend, p.waits, p.came, p.as().seats(), p.as().gains(w.home[3]),
            p.as().loses(p, 0), p.as().shares(p) ? 1 : 0};
        return facts[what];
    }

    private int change(Person p, int what, int v) {
        range(what, 0, 4);
        int[] most = {6, 99, w.people.size() - 1, 9999, 9999};
        range(v, what == 2 ? -1 : 0, most[what]);
        demand(what != 2 || v != p.number, 0);
        int was = fact(p, what);
        if (what == 0) {
            p.kind = v;
        } else if (what == 1) {
            p.mood = v;
        } else if (what == 2) {
            p.friend = v;
        } else if (what == 3) {
            p.waits = v;
        } else {
            p.came = v;
        }
        return was;
    }

    private long sundayCall(String name, int[] a) {
        switch (name) {
            case "go":
                range(a[0], 1, 60);
                demand(w.sunday + a[0] <= 99999, 4);
                w = w.behind(a[0]);
                return w.moods();
            case "now":
                range(a[0], 0, 7);
                return now(a[0]);
            case "ahead":
                person(a[0]);
                demand(a[1] == 1 || a[1] == 3 || a[1] == 4, 0);
                range(a[2], 0, 100);
                return fact(w.behind(a[2]).people.get(a[0]), a[1]);
            case "glad":
                person(a[0]);
                range(a[1], 0, 99);
                return firstSunday(x -> x.people.get(a[0]).mood >= a[1]);
            case "sad":
                person(a[0]);
                range(a[1], 0, 99);
                return firstSunday(x -> x.people.get(a[0]).mood <= a[1]);
            case "when":
                person(a[0]);
                range(a[1], 0, 9999);
                return firstSunday(x -> x.people.get(a[0]).came >= a[1]);
            default:
                return firstSunday(x -> x.people.stream().allMatch(Person::well));
        }
    }

    private int firstSunday(java.util.function.Predicate<World> good) {
        List<World> worlds = new ArrayList<>(List.of(w));
        while (worlds.size() <= 200) {
            worlds.add(worlds.get(worlds.size() - 1).behind(1));
        }
        return first(k -> good.test(worlds.get(k)), 0, 200);
    }

    private int now(int what) {
        switch (what) {
            case 0:
                return w.sunday;
            case 1:
                return w.moods();
            case 2:
                return set(w.people.stream().filter(Person::well).toList());
            case 3:
                return set(w.visitedNow());
            case 4:
                return set(w.sharing());
            case 5:
                return set(w.helped());
            case 6:
                return w.people.isEmpty() ? -1 : best(upTo(0, w.people.size() - 1), r -> w.people.get(r).waits);
            default:
                return w.came();
        }
    }

    private World withHome(int what, int v, int n) {
        World x = w.twin();
        x.home[what] = v;
        return x.behind(n);
    }

    private long planCall(String name, int[] a) {
        switch (name) {
            case "longFor":
                range(a[0], 0, 40);
                return best(upTo(1, 12), v -> withHome(3, v, a[0]).moods());
            case "chairsFor":
                range(a[0], 0, 9999);
                range(a[1], 0, 40);
                return first(v -> withHome(0, v, a[1]).came() >= a[0], 0, 20);
            case "volunteersFor":
                range(a[0], 0, 99);
                range(a[1], 0, 40);
                return first(v -> withHome(2, v, a[1]).people.stream().noneMatch(p -> p.mood < a[0]), 0, 8);
            default:
                person(a[0]);
                range(a[1], 0, name.equals("away") ? 20 : 40);
                return planFor(name, a[0], a[1]);
        }
    }

    private int planFor(String name, int r, int n) {
        switch (name) {
            case "comeOn":
                return best(upTo(0, 5), i -> {
                    World x = w.twin();
                    x.list[i] |= 1 << r;
                    return x.behind(n).people.get(r).mood;
                });
            case "kindFor":
                return best(upTo(0, 6), k -> {
                    World x = w.twin();
                    x.people.get(r).kind = k;
                    return x.behind(n).people.get(r).mood;
                });
            case "friendFor":
                List<Integer> friends = new ArrayList<>(upTo(0, w.people.size() - 1));
                friends.remove(Integer.valueOf(r));
                friends.add(-1);
                return best(friends, f -> {
                    World x = w.twin();
                    x.people.get(r).friend = f;
                    return x.behind(n).people.get(r).mood;
                });
            default:
                List<Integer> sets = new ArrayList<>(upTo(0, (1 << w.people.size()) - 1));
                sets.removeIf(s -> (s & 1 << r) != 0);
                sets.sort(Comparator.comparingInt((Integer s) -> Integer.bitCount(s)).thenComparingInt(s -> s));
                return sets.stream().filter(s -> {
                    World x = w.twin();
                    Arrays.setAll(x.list, i -> x.list[i] & (255 ^ s));
                    return x.behind(n).people.get(r).well();
                }).findFirst().orElseThrow(() -> new Finding(3));
        }
    }

    private int[] sheetOf(int s) {
        range(s, 0, 3);
        demand(bits[s] != 0, 5);
        return sheets[s];
    }

    private long toldCall(String name, int[] a) {
        int[] numbers = sheetOf(a[0]);
        person(a[1]);
        if (name.equals("kinds")) {
            return upTo(0, 6).stream().filter(k -> {
                World x = w.twin();
                x.people.get(a[1]).kind = k;
                return goes(x, numbers, y -> y.people.get(a[1]).mood);
            }).mapToInt(k -> 1 << k).sum();
        }
        List<Integer> moods = upTo(0, 99).stream().filter(m -> {
            World x = w.twin();
            x.people.get(a[1]).mood = m;
            return goes(x, numbers, y -> y.people.get(a[1]).well() ? 1 : 0);
        }).toList();
        demand(name.equals("fits") || !moods.isEmpty(), 3);
        return name.equals("fits") ? moods.size() : moods.get(0);
    }

    private static boolean goes(World x, int[] numbers, ToIntFunction<World> shown) {
        for (int number : numbers) {
            if (number != -1 && number != shown.applyAsInt(x)) {
                return false;
            }
            x.day();
        }
        return true;
    }

    private long drawCall(String name, int[] a) {
        switch (name) {
            case "come":
                range(a[0], 1, 20);
                demand(w.sunday + a[0] <= 99999, 4);
                for (int i = 0; i < a[0]; i++) {
                    w.list[w.sunday % 6] = w.draw() % 256;
                    w.home[3] = w.draw() % 12 + 1;
                    w.day();
                }
                return w.moods();
            case "odds":
                Person p = person(a[0]);
                range(a[1], 0, 7);
                range(a[2], 0, 1);
                BigInteger above = BigInteger.valueOf(
                    upTo(0, 255).stream().filter(s -> w.visited(s).contains(p)).count()).pow(a[1]);
                BigInteger below = BigInteger.valueOf(256).pow(a[1]);
                BigInteger shared = above.gcd(below);
                return (a[2] == 0 ? above : below).divide(shared).longValueExact();
            default:
                int was = w.z;
                w.z = a[0];
                return was;
        }
    }

    private long tapeCall(String name, int[] a) {
        int had = tape.size();
        if (name.equals("feed")) {
            range(a[1], 1, 4);
            demand(had + a[1] <= 120, 1);
            byte[] all = java.nio.ByteBuffer.allocate(4).putInt(a[0]).array();
            for (int i = 4 - a[1]; i < 4; i++) {
                tape.add(Byte.toUnsignedInt(all[i]));
            }
            return tape.size();
        }
        StringBuilder s = new StringBuilder();
        tape.forEach(b -> s.append((char) b.intValue()));
        tape.clear();
        return name.equals("wipe") ? had : readText(s.toString());
    }

    private static final Pattern TOKEN = Pattern.compile(" *([a-z]+|[0-9]+|;|\\z|.)", Pattern.DOTALL);

    private int readText(String text) {
        World x = w.twin();
        try {
            Matcher m = TOKEN.matcher(text);
            int items = 0;
            do {
                readItem(m, x);
                items++;
            } while (m.group(1).equals(";"));
            if (!m.group(1).isEmpty()) {
                throw new Fault(m.start(1));
            }
            w = x;
            return items;
        } catch (Fault f) {
            return -1 - f.at;
        }
    }

    /** Leaves the matcher on the token behind the item. */
    private static void readItem(Matcher m, World x) {
        m.find();
        String word = m.group(1);
        int at = m.start(1);
        if (KIND_WORDS.contains(word)) {
            if (x.people.size() == 8) {
                throw new Fault(at);
            }
            Person p = new Person(x.people.size(), KIND_WORDS.indexOf(word));
            x.people.add(p);
            m.find();
            if (m.group(1).equals("mood")) {
                p.mood = number(m, 0, 99);
                m.find();
            }
            if (m.group(1).equals("friend")) {
                p.friend = number(m, 0, p.number - 1);
                m.find();
            }
            if (m.group(1).equals("waits")) {
                p.waits = number(m, 0, 9999);
                m.find();
            }
        } else if (HOME_WORDS.contains(word)) {
            int what = HOME_WORDS.indexOf(word);
            x.home[what] = number(m, HOME_LEAST[what], HOME_MOST[what]);
            m.find();
        } else if (word.equals("visits")) {
            int place = number(m, 0, 5);
            x.list[place] = number(m, 0, 255);
            m.find();
        } else {
            throw new Fault(at);
        }
    }

    private static int number(Matcher m, int least, int most) {
        m.find();
        String digits = m.group(1);
        if (digits.isEmpty() || !digits.chars().allMatch(d -> d >= '0' && d <= '9')) {
            throw new Fault(m.start(1));
        }
        BigInteger v = new BigInteger(digits);
        if (v.compareTo(BigInteger.valueOf(least)) < 0 || v.compareTo(BigInteger.valueOf(most)) > 0) {
            throw new Fault(m.start(1));
        }
        return v.intValue();
    }

    private long spotCall(String name, int[] a) {
        range(a[0], 0, 9);
        if (name.equals("hold")) {
            range(a[1], -1, w.people.size() - 1);
            w.spots[a[0]] = a[1];
            return 1;
        }
        range(a[1], 0, 6);
        demand(w.spots[a[0]] != -1, 5);
        demand(KINDS.get(a[1]).getClass().isInstance(w.people.get(w.spots[a[0]]).as()), 2);
        return w.spots[a[0]];
    }

    private long sheetCall(String name, int[] a) {
        switch (name) {
            case "sheet":
                range(a[0], 0, 3);
                demand(List.of(0, 8, 16, 32).contains(a[1]), 0);
                demand(a[2] >= 0, 6);
                demand(a[2] <= 40, 0);
                bits[a[0]] = a[1];
                sheets[a[0]] = new int[a[1] == 0 ? 0 : a[2]];
                return sheets[a[0]].length;
            case "write":
                range(a[1], 0, sheetOf(a[0]).length - 1);
                sheets[a[0]][a[1]] = a[2] << 32 - bits[a[0]] >> 32 - bits[a[0]];
                return 1;
            case "copy":
                range(a[0], 0, 3);
                range(a[2], 0, 3);
                demand(bits[a[0]] != 0 && bits[a[2]] != 0, 5);
                demand(bits[a[0]] == bits[a[2]], 2);
                demand(a[1] >= 0 && a[3] >= 0 && a[4] >= 0, 0);
                demand((long) a[1] + a[4] <= sheets[a[0]].length && (long) a[3] + a[4] <= sheets[a[2]].length, 0);
                int[] piece = Arrays.copyOfRange(sheets[a[0]], a[1], a[1] + a[4]);
                for (int i = 0; i < piece.length; i++) {
                    sheets[a[2]][a[3] + i] = piece[i];
                }
                return a[4];
            case "load":
                int came = 0;
                for (int v : sheetOf(a[0])) {
                    if (v < 0 || v > 255 || came == 6) {
                        break;
                    }
                    w.list[came++] = v;
                }
                return came;
            default:
                int[] numbers = sheetOf(a[0]);
                for (int i = 0; i < numbers.length; i++) {
                    if (i >= w.people.size() || w.people.get(i).mood != numbers[i]) {
                        return i + 1;
                    }
                }
                return 0;
        }
    }

    private long imageCall(String name, int[] a) {
        switch (name) {
            case "image":
                kept = w.twin();
                return 1;
            case "undo":
                demand(kept != null, 3);
                w = kept.twin();
                return w.sunday;
            case "tear":
                int had = kept == null ? 0 : 1;
                kept = null;
                return had;
            case "count":
                range(a[0], 0, 7);
                return new int[] {w.sunday, w.people.size(), w.moods(), w.came(),
                    (int) w.people.stream().filter(Person::well).count(), tape.size(), w.z,
                    (int) Arrays.stream(w.spots).filter(s -> s >= 0).count()}[a[0]];
            default:
                range(a[0], -1, 6);
                return a[0] < 0 ? Arrays.stream(told).sum() : told[a[0]];
        }
    }
}
