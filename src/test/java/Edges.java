import java.lang.reflect.InvocationTargetException;
import java.lang.reflect.Method;
import java.util.ArrayList;
import java.util.Comparator;
import java.util.List;
import java.util.TreeSet;
import java.util.function.Function;

/**
 * What the edge tests share. Each static method of a test class whose name begins with promise and a number is one test
 * of one sentence; run calls them all and ends with exit code 1 if one fails.
 */
abstract class Edges {
    static final int NONE = -6, UNKNOWN = -1, OUTSIDE = -2, STATE = -3, FULL = -4, NO = -5;
    static final int LEAST = Integer.MIN_VALUE, MOST = Integer.MAX_VALUE;
    /** -32 to -25 and 32 to 38 would be members for a shift, 256 for a byte. */
    static final int[] NOT_MEMBERS = {-1, 7, 8, -32, 32, 38, 256, LEAST, MOST};

    private static final List<Function<BubbleHouse, List<Long>>> PROBES =
        List.of(Edges::face, Edges::games, Edges::goneOn, Edges::sights, Edges::images);

    private static String test = "";
    private static int checks = 0;
    private static int wrong = 0;

    interface Start {
        BubbleHouse make();
    }

    interface Call {
        long on(BubbleHouse x);
    }

    // ---- running

    static void run(Class<?> tests, int firstPromise, int lastPromise) {
        List<Method> methods = new ArrayList<>();
        TreeSet<Integer> promises = new TreeSet<>();
        for (Method m : tests.getDeclaredMethods()) {
            if (m.getName().matches("promise\\d+_.+")) {
                methods.add(m);
                promises.add(promiseOf(m));
            }
        }
        methods.sort(Comparator.comparing(Edges::promiseOf).thenComparing(Method::getName));
        for (Method m : methods) {
            runOne(m);
        }
        test = tests.getName();
        for (int promise = firstPromise; promise <= lastPromise; promise++) {
            check(promises.contains(promise), "promise " + promise + " has no test");
        }
        System.out.println(tests.getName() + ": " + methods.size() + " tests, " + checks + " checks, " + wrong + " wrong");
        if (wrong != 0) {
            System.exit(1);
        }
    }

    private static int promiseOf(Method m) {
        return Integer.parseInt(m.getName().replaceAll("promise(\\d+)_.*", "$1"));
    }

    private static void runOne(Method m) {
        test = m.getName();
        int before = checks;
        try {
            m.setAccessible(true);
            m.invoke(null);
            check(checks > before, "checks nothing");
        } catch (InvocationTargetException e) {
            check(false, "threw " + e.getCause());
        } catch (IllegalAccessException e) {
            check(false, "can not be called: " + e);
        }
    }

    private static void check(boolean right, String otherwise) {
        checks++;
        if (!right) {
            wrong++;
            System.out.println(test + ": " + otherwise);
        }
    }

    /** The line of the test itself, not that of a helper that it called. */
    private static String line() {
        return StackWalker.getInstance().walk(frames -> frames
            .filter(f -> f.getMethodName().equals(test)).findFirst()
            .map(f -> "line " + f.getLineNumber()).orElse("?"));
    }

    static void due(long got, long want) {
        check(got == want, line() + " answered " + got + ", due is " + want);
    }

    // ---- houses to begin with

    static BubbleHouse fresh() {
        return new BubbleHouse();
    }

    static BubbleHouse one(int member, int place, int breath) {
        BubbleHouse x = new BubbleHouse();
        x.dive(member, place, breath);
        return x;
    }

    /** A at 2 with 9, B at 2 with 5, C at 7 without BREATH. */
    static BubbleHouse three() {
        BubbleHouse x = one(0, 2, 9);
        x.dive(1, 2, 5);
        x.dive(2, 7, 0);
        return x;
    }

    /** All seven at one PLACE with the same BREATH. */
    static BubbleHouse seven(int place, int breath) {
        BubbleHouse x = new BubbleHouse();
        for (int m = 0; m <= 6; m++) {
            x.dive(m, place, breath);
        }
        return x;
    }

    /**
     * Nothing is as it was at first, so that a change of anything shows: A and B are BELOW, C rose without BREATH and D
     * with some, E to G are not there; image 0 is kept, of another house, image 1 is not.
     */
    static BubbleHouse busy() {
        BubbleHouse x = one(6, 4, 8);
        x.hours(1, 6);
        x.seen(9, 30, 4);
        sit(x, "G2.");
        x.image(0);
        x.leave(6);
        x.set(0, 20);
        x.set(1, 3);
        x.hours(0, 5);
        x.hours(5, 0);
        x.dive(0, 2, 40);
        x.dive(1, 9, 6);
        x.dive(2, 7, 0);
        x.dive(3, 2, 12);
        sit(x, "A3D^B2.A3~7A1");
        x.forget();
        x.seen(4, 10, 7);
        x.seen(5, 9, 0);
        return write(x, "B1~4.");
    }

    static BubbleHouse fullPad() {
        return write(busy(), "~1".repeat(30));
    }

    static BubbleHouse fullBook() {
        return fill(one(0, 0, 99), 32);
    }

    static BubbleHouse minute99() {
        return pass(new BubbleHouse(), 99);
    }

    /** A at 3 with 9, B at 3 without BREATH. */
    static BubbleHouse minute98() {
        BubbleHouse x = pass(fresh(), 98);
        x.dive(0, 3, 9);
        x.dive(1, 3, 0);
        return x;
    }

    /** A at 3 with 9, B at 3 without BREATH. */
    static BubbleHouse twoInMinute99() {
        BubbleHouse x = minute99();
        x.dive(0, 3, 9);
        x.dive(1, 3, 0);
        return x;
    }

    static BubbleHouse fullSights() {
        BubbleHouse x = busy();
        x.forget();
        for (int i = 0; i < 8; i++) {
            x.seen(4, 10 + i, 7);
        }
        return x;
    }

    // ---- acts

    static Start written(Start start, String text) {
        return () -> write(start.make(), text);
    }

    static BubbleHouse write(BubbleHouse x, String text) {
        x.wipe();
        for (int i = 0; i < text.length(); i++) {
            x.say(text.charAt(i));
        }
        return x;
    }

    /** Does a sitting that can be. */
    static BubbleHouse sit(BubbleHouse x, String text) {
        check(write(x, text).done() >= 0, line() + " could not do " + text);
        return x;
    }

    static BubbleHouse pass(BubbleHouse x, int minutes) {
        for (int left = minutes; left > 0; left -= 60) {
            sit(x, ".".repeat(Math.min(60, left)));
        }
        return x;
    }

    /** Bubbles of SIZE 1 by A. */
    static BubbleHouse fill(BubbleHouse x, int bubbles) {
        for (int left = bubbles; left > 0; left -= 30) {
            sit(x, "A1".repeat(Math.min(30, left)));
        }
        return x;
    }

    /** The i-th of 32 words: ten a minute from minute 11 on, one a PLACE. */
    static void makeWord(BubbleHouse x, int i) {
        x.dive(0, i % 10, 99);
        x.set(0, 11 + i / 10);
        sit(x, "A1");
    }

    static BubbleHouse bookOf32Words() {
        BubbleHouse x = fresh();
        for (int i = 0; i < 32; i++) {
            makeWord(x, i);
        }
        return x;
    }

    static void are32Words(BubbleHouse x) {
        due(x.told(7), 32);
        due(x.word(-1, 0), 32);
        for (int i = 0; i < 32; i++) {
            due(x.word(i, 0), 11 + i / 10);
            due(x.word(i, 1), i % 10);
            due(x.word(i, 2), 1);
        }
        due(x.word(32, 0), UNKNOWN);
    }

    // ---- nothing has changed

    static void refused(int due, Start start, Call call) {
        due(call.on(start.make()), due);
        unchanged(start, call);
    }

    /** Two houses of the same calls must answer the same for ever, though one of them is asked in between. */
    static void unchanged(Start start, Call call) {
        for (Function<BubbleHouse, List<Long>> probe : PROBES) {
            BubbleHouse asked = start.make();
            call.on(asked);
            List<Long> got = probe.apply(asked);
            List<Long> want = probe.apply(start.make());
            check(got.equals(want), line() + " changed something: " + got + " was " + want);
        }
    }

    private static void add(List<Long> all, long... more) {
        for (long v : more) {
            all.add(v);
        }
    }

    /** All that the calls tell of the house as it is. */
    private static List<Long> face(BubbleHouse x) {
        List<Long> all = new ArrayList<>();
        for (int what = 0; what < 36; what++) {
            add(all, x.told(what));
        }
        int words = x.word(-1, 0);
        for (int i = -1; i <= words; i++) {
            add(all, x.word(i, 0), x.word(i, 1), x.word(i, 2));
        }
        add(all, x.fault(), x.judge(0), x.judge(1), x.then(0), x.then(1), x.then(2), x.then(3));
        for (int m = 0; m < 7; m++) {
            add(all, x.behind(m, 0), x.behind(m, 1), x.power(m));
        }
        add(all, x.votes(0, 999, 0), x.votes(0, 999, 1), x.falls(), x.whose(), x.alike(-1));
        return all;
    }

    private static List<Long> games(BubbleHouse x) {
        List<Long> all = new ArrayList<>();
        for (int hour = 0; hour < 24; hour++) {
            add(all, x.orders(2, hour), x.orders(6, hour));
        }
        int below = x.told(2);
        add(all, x.held(below, 1), x.filibuster(below, 3, 1), x.filibuster(below, 3, 2));
        for (int m = 0; m < 7; m++) {
            for (int place = 0; place < 10; place++) {
                add(all, x.speak(m, place, 24, 0));
            }
        }
        for (int seed = 0; seed < 20; seed++) {
            add(all, x.day(seed, 40, 0), x.day(seed, 40, 1), x.day(seed, 40, 2));
        }
        return all;
    }

    /** What comes of the sitting that stands on the pad, and of a minute more. */
    private static List<Long> goneOn(BubbleHouse x) {
        List<Long> all = new ArrayList<>();
        add(all, x.say('.'), x.fault(), x.done(), x.told(0), x.wipe(), x.say('.'), x.done());
        all.addAll(face(x));
        return all;
    }

    /** The sights show only by whom they can be, so let members be everywhere, at many depths and tides. */
    private static List<Long> sights(BubbleHouse x) {
        List<Long> all = new ArrayList<>();
        for (int deep : new int[] {1, 11, 20, 36, 40}) {
            for (int tide : new int[] {0, 1, 3, 7}) {
                x.set(0, deep);
                x.set(1, tide);
                for (int place = 0; place < 10; place++) {
                    x.dive(place % 5, place, 0);
                    if (place % 5 == 4) {
                        add(all, x.whose());
                    }
                }
            }
        }
        return all;
    }

    private static List<Long> images(BubbleHouse x) {
        List<Long> all = new ArrayList<>();
        for (int n = 0; n <= 1; n++) {
            add(all, x.restore(n));
            all.addAll(face(x));
        }
        return all;
    }
}
