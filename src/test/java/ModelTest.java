import java.math.BigInteger;
import java.util.ArrayList;
import java.util.Arrays;
import java.util.HashMap;
import java.util.List;
import java.util.Map;
import java.util.Random;
import java.util.TreeMap;

/** Compares long drawn runs of calls with a slow model that is written by the document's words alone. */
public final class ModelTest {
    private static final int RUNS = 1800;
    private static final int CALLS = 512;
    private static final int[] WILD = {
        Integer.MIN_VALUE, Integer.MIN_VALUE + 1, -100, -7, -6, -5, -4, -3, -2, -1, 0, 1, 2, 3, 4, 5, 6, 7, 8, 9, 10, 11,
        16, 17, 26, 27, 32, 33, 35, 36, 40, 41, 54, 55, 60, 63, 64, 99, 100, 126, 127, 128, 999, 1000, 9999, 10000,
        999999, 1000000, 16777215, 16777216, Integer.MAX_VALUE - 1, Integer.MAX_VALUE
    };

    public static void main(String[] args) {
        for (int run = 0; run < RUNS; run++) {
            String wrong = new Run(run).firstWrong();
            if (wrong != null) {
                System.out.println("run " + run + ": " + wrong);
                System.exit(1);
            }
        }
        System.out.println("ModelTest: " + RUNS + " runs of " + CALLS + " calls agree");
    }

    /** One run of calls on a new object and on a new model. */
    private static final class Run {
        private final Random random;
        private final BubbleHouse house = new BubbleHouse();
        private final Model model = new Model();
        private final int wildness;
        private final boolean longSession;

        /** A long session never closes the book, so that it comes to be full and the last minute comes. */
        Run(int number) {
            random = new Random(1000 + number);
            wildness = number % 4 == 0 ? 8 : 60;
            longSession = number % 3 == 0;
        }

        String firstWrong() {
            for (int i = 0; i < CALLS; i++) {
                String name = longSession ? longName() : NAMES[random.nextInt(NAMES.length)];
                int[] a = arguments(name);
                String call = name + Arrays.toString(a);
                long got;
                try {
                    got = answer(name, a);
                } catch (RuntimeException e) {
                    return "call " + i + ": " + call + " threw " + e;
                }
                long due = model.answer(name, a);
                if (got != due) {
                    return "call " + i + ": " + call + " answered " + got + ", due is " + due;
                }
            }
            return null;
        }

        private String longName() {
            if (random.nextInt(10) < 7) {
                return "say";
            }
            if (random.nextInt(10) < 2) {
                return model.after() == null ? random.nextBoolean() ? "judge" : "wipe" : "done";
            }
            String name = NAMES[random.nextInt(NAMES.length)];
            return name.equals("close") || name.equals("restore") ? "dive" : name;
        }

        private int from(int least, int most) {
            if (random.nextInt(wildness) == 0) {
                return WILD[random.nextInt(WILD.length)];
            }
            return least + random.nextInt(most - least + 1);
        }

        private int[] arguments(String name) {
            switch (name) {
                case "dive": return new int[] {
                    from(0, 6), from(0, random.nextBoolean() ? 9 : 1), from(longSession ? 60 : 0, random.nextInt(3) == 0 ? 99 : longSession ? 80 : 20)};
                case "leave": return new int[] {from(0, 6)};
                case "set": {
                    int which = from(0, 1);
                    return new int[] {which, which == 0 ? from(1, 40) : from(0, 9)};
                }
                case "say": return new int[] {sign()};
                case "judge": return new int[] {from(0, 1)};
                case "behind": return new int[] {from(0, 6), from(0, 1)};
                case "then": return new int[] {from(0, 3)};
                case "word": return new int[] {from(-1, 12), from(0, 2)};
                case "votes": return new int[] {from(0, 60), from(20, 150), from(0, 1)};
                case "speak": return new int[] {
                    from(0, 6), from(0, 9), model.water.minute + from(0, 45), from(0, 2)};
                case "laws": return new int[] {digits(), digits(), from(0, 30), from(0, 2)};
                case "power": return new int[] {from(0, 6)};
                case "held": return new int[] {someBelow(), from(0, 1)};
                case "hours": return new int[] {from(0, 5), from(0, 16777215) | from(0, 16777215)};
                case "orders": return new int[] {from(1, 6), from(0, 23)};
                case "seen": return new int[] {from(1, 9), from(0, 40), from(0, 9)};
                case "alike": return new int[] {from(-1, 6)};
                case "filibuster": return new int[] {someBelow(), from(1, 9), from(0, 2)};
                case "breaks": return new int[] {from(1, 9), from(0, 6), from(0, 10), from(0, 1), from(0, 1)};
                case "day": return new int[] {from(0, 9999), from(1, 99), from(0, 2)};
                case "image": case "restore": return new int[] {from(0, 1)};
                case "told": return new int[] {from(0, 40)};
                default: return new int[0];
            }
        }

        /** Mostly a sign that goes on rightly, so that long sittings come about. */
        private int sign() {
            String text = model.pad.toString();
            if (random.nextInt(40) == 0) {
                return from(30, 129);
            }
            if (!text.isEmpty() && model.fault() == text.length()) {
                return secondSign(text.charAt(text.length() - 1));
            }
            int kind = random.nextInt(longSession ? 5 + random.nextInt(60) : 12);
            if (kind == 0 && random.nextInt(3) == 0) {
                return '~';
            }
            if (kind > 8 || random.nextInt(20) == 0) {
                return kind > 8 ? '.' : 'A' + random.nextInt(7);
            }
            Water after = model.after();
            int below = after == null ? 0 : after.belowBits();
            for (int tries = 0; tries < 20; tries++) {
                int member = random.nextInt(7);
                if ((below & 1 << member) != 0) {
                    return 'A' + member;
                }
            }
            return '.';
        }

        private int secondSign(char first) {
            if (first == '~') {
                return '0' + random.nextInt(10);
            }
            if (random.nextInt(20) == 0) {
                return '^';
            }
            return '1' + (random.nextInt(3) == 0 ? random.nextInt(9) : 0);
        }

        private int digits() {
            if (random.nextInt(wildness) == 0) {
                return WILD[random.nextInt(WILD.length)];
            }
            int number = 0;
            int most = random.nextBoolean() ? 4 : 10;
            for (int i = 0; i < 6; i++) {
                number = 10 * number + random.nextInt(most);
            }
            return number;
        }

        private int someBelow() {
            return random.nextInt(6) == 0 ? from(0, 127) : model.water.belowBits() & random.nextInt(128);
        }

        private long answer(String name, int[] a) {
            switch (name) {
                case "dive": return house.dive(a[0], a[1], a[2]);
                case "leave": return house.leave(a[0]);
                case "set": return house.set(a[0], a[1]);
                case "close": return house.close();
                case "say": return house.say(a[0]);
                case "wipe": return house.wipe();
                case "fault": return house.fault();
                case "judge": return house.judge(a[0]);
                case "done": return house.done();
                case "behind": return house.behind(a[0], a[1]);
                case "then": return house.then(a[0]);
                case "word": return house.word(a[0], a[1]);
                case "votes": return house.votes(a[0], a[1], a[2]);
                case "falls": return house.falls();
                case "speak": return house.speak(a[0], a[1], a[2], a[3]);
                case "laws": return house.laws(a[0], a[1], a[2], a[3]);
                case "power": return house.power(a[0]);
                case "held": return house.held(a[0], a[1]);
                case "hours": return house.hours(a[0], a[1]);
                case "orders": return house.orders(a[0], a[1]);
                case "seen": return house.seen(a[0], a[1], a[2]);
                case "forget": return house.forget();
                case "whose": return house.whose();
                case "alike": return house.alike(a[0]);
                case "filibuster": return house.filibuster(a[0], a[1], a[2]);
                case "breaks": return house.breaks(a[0], a[1], a[2], a[3], a[4]);
                case "day": return house.day(a[0], a[1], a[2]);
                case "image": return house.image(a[0]);
                case "restore": return house.restore(a[0]);
                case "told": return house.told(a[0]);
                default: throw new IllegalStateException(name);
            }
        }
    }

    /** Names stand as often as they shall be drawn. */
    private static final String[] NAMES = (
        "dive dive dive dive leave set set close say say say say say say say say say say say say say say say say say say "
        + "say say say say wipe fault fault judge judge judge done done done behind behind then then then word word word "
        + "word word votes votes falls speak speak speak speak laws laws power power held held hours hours orders orders "
        + "seen seen forget whose whose alike alike filibuster filibuster filibuster breaks breaks day day day image "
        + "restore told told told told told").split(" ");

    private static final class Member implements Cloneable {
        int place;
        int breath;
        boolean below;

        Member copy() {
            Member other = new Member();
            other.place = place;
            other.breath = breath;
            other.below = below;
            return other;
        }
    }

    /** What a sitting changes. A bubble is {minute, place, size}. */
    private static final class Water {
        final Map<Integer, Member> members = new TreeMap<>();
        final List<int[]> bubbles = new ArrayList<>();
        int deep = 12;
        int tide;
        int minute;

        Water copy() {
            Water other = new Water();
            for (Map.Entry<Integer, Member> e : members.entrySet()) {
                other.members.put(e.getKey(), e.getValue().copy());
            }
            other.bubbles.addAll(bubbles);
            other.deep = deep;
            other.tide = tide;
            other.minute = minute;
            return other;
        }

        boolean isBelow(int m) {
            return members.containsKey(m) && members.get(m).below;
        }

        int up(int size) {
            int minutes = deep / size;
            return deep % size > 0 ? minutes + 1 : minutes;
        }

        int placeAfter(int place, int minutes) {
            int at = place;
            for (int i = 0; i < minutes * tide; i++) {
                at = at == 9 ? 0 : at + 1;
            }
            return at;
        }

        /** Answers why the act can not be, 0 when it is done. */
        int act(String act) {
            if (act.equals(".")) {
                return minutePasses();
            }
            if (act.startsWith("~")) {
                tide = act.charAt(1) - '0';
                return 0;
            }
            int m = act.charAt(0) - 'A';
            if (!isBelow(m)) {
                return 1;
            }
            Member member = members.get(m);
            if (act.endsWith("^")) {
                member.below = false;
                return 0;
            }
            int size = act.charAt(1) - '0';
            if (member.breath < size) {
                return 2;
            }
            if (bubbles.size() == 32) {
                return 3;
            }
            member.breath -= size;
            bubbles.add(new int[] {minute + up(size), placeAfter(member.place, up(size)), size});
            return 0;
        }

        private int minutePasses() {
            if (minute == 99) {
                return 4;
            }
            minute++;
            for (Member member : members.values()) {
                if (member.below && member.breath == 0) {
                    member.below = false;
                } else if (member.below) {
                    member.breath--;
                }
            }
            return 0;
        }

        int belowBits() {
            int bits = 0;
            for (int m : members.keySet()) {
                bits += isBelow(m) ? 1 << m : 0;
            }
            return bits;
        }

        int breathOf(int set) {
            int sum = 0;
            for (int m : members.keySet()) {
                sum += (set & 1 << m) != 0 ? members.get(m).breath : 0;
            }
            return sum;
        }

        List<int[]> words() {
            TreeMap<Integer, int[]> words = new TreeMap<>();
            for (int[] b : bubbles) {
                words.computeIfAbsent(100 * b[0] + b[1], key -> new int[] {b[0], b[1], 0})[2] += b[2];
            }
            return new ArrayList<>(words.values());
        }
    }

    private static final class Model {
        Water water = new Water();
        List<int[]> sights = new ArrayList<>();
        int[] hours = filled();
        StringBuilder pad = new StringBuilder();
        final Object[][] images = new Object[2][];

        private static int[] filled() {
            int[] all = new int[6];
            Arrays.fill(all, 0xFFFFFF);
            return all;
        }

        private static boolean out(int v, int least, int most) {
            return v < least || v > most;
        }

        long answer(String name, int[] a) {
            switch (name) {
                case "dive": return dive(a[0], a[1], a[2]);
                case "leave": return water.members.remove(a[0]) == null ? -1 : water.members.size();
                case "set": return set(a[0], a[1]);
                case "close": return close();
                case "say": return say(a[0]);
                case "wipe": return wipe();
                case "fault": return fault();
                case "judge": return judge(a[0]);
                case "done": return done();
                case "behind": return behind(a[0], a[1]);
                case "then": return then(a[0]);
                case "word": return word(a[0], a[1]);
                case "votes": return votes(a[0], a[1], a[2]);
                case "falls": return falls();
                case "speak": return speak(a[0], a[1], a[2], a[3]);
                case "laws": return laws(a[0], a[1], a[2], a[3]);
                case "power": return power(a[0]);
                case "held": return held(a[0], a[1]);
                case "hours": return hours(a[0], a[1]);
                case "orders": return out(a[0], 1, 6) || out(a[1], 0, 23) ? -2 : orders(a[0], a[1], 0);
                case "seen": return seen(a[0], a[1], a[2]);
                case "forget": return forget();
                case "whose": return whose();
                case "alike": return alike(a[0]);
                case "filibuster": return filibuster(a[0], a[1], a[2]);
                case "breaks": return breaks(a[0], a[1], a[2], a[3], a[4]);
                case "day": return day(a[0], a[1], a[2]);
                case "image": return image(a[0]);
                case "restore": return restore(a[0]);
                case "told": return told(a[0]);
                default: throw new IllegalStateException(name);
            }
        }

        int dive(int m, int place, int breath) {
            if (out(m, 0, 6)) {
                return -1;
            }
            if (out(place, 0, 9) || out(breath, 0, 99)) {
                return -2;
            }
            Member member = new Member();
            member.place = place;
            member.breath = breath;
            member.below = true;
            water.members.put(m, member);
            return Integer.bitCount(water.belowBits());
        }

        int set(int which, int v) {
            if (out(which, 0, 1) || (which == 0 ? out(v, 1, 40) : out(v, 0, 9))) {
                return -2;
            }
            int was = which == 0 ? water.deep : water.tide;
            if (which == 0) {
                water.deep = v;
            } else {
                water.tide = v;
            }
            return was;
        }

        int close() {
            int was = water.bubbles.size();
            water.bubbles.clear();
            water.minute = 0;
            return was;
        }

        int say(int sign) {
            if (out(sign, 33, 126)) {
                return -2;
            }
            if (pad.length() == 60) {
                return -4;
            }
            pad.append((char) sign);
            return pad.length();
        }

        int wipe() {
            int was = pad.length();
            pad.setLength(0);
            return was;
        }

        /** The longest beginning that some right text has tells the first sign that can not stand there. */
        int fault() {
            String acts = "(?:[A-G][1-9^]|~[0-9]|\\.)*";
            String text = pad.toString();
            if (text.matches(acts)) {
                return -6;
            }
            for (int n = text.length(); n >= 0; n--) {
                if (text.substring(0, n).matches(acts + "[A-G~]?")) {
                    return n;
                }
            }
            throw new IllegalStateException(text);
        }

        private List<String> acts() {
            List<String> acts = new ArrayList<>();
            String rest = pad.toString();
            while (!rest.isEmpty()) {
                int n = rest.startsWith(".") ? 1 : 2;
                acts.add(rest.substring(0, n));
                rest = rest.substring(n);
            }
            return acts;
        }

        /** {act, why} of the first act that can not be, null if there is none. */
        private int[] judged(Water trial) {
            List<String> acts = acts();
            for (int i = 0; i < acts.size(); i++) {
                int why = trial.act(acts.get(i));
                if (why != 0) {
                    return new int[] {i, why};
                }
            }
            return null;
        }

        int judge(int what) {
            if (out(what, 0, 1)) {
                return -2;
            }
            if (fault() != -6) {
                return -5;
            }
            int[] judged = judged(water.copy());
            return judged == null ? -6 : judged[what];
        }

        /** The water after the sitting, null if it can not be. */
        private Water after() {
            Water trial = water.copy();
            return fault() != -6 || judged(trial) != null ? null : trial;
        }

        int done() {
            Water after = after();
            if (after == null) {
                return -5;
            }
            int acts = acts().size();
            water = after;
            pad.setLength(0);
            return acts;
        }

        int behind(int m, int what) {
            if (!water.members.containsKey(m)) {
                return -1;
            }
            if (out(what, 0, 1)) {
                return -2;
            }
            Water after = after();
            if (after == null) {
                return -5;
            }
            return what == 0 ? after.members.get(m).breath : after.isBelow(m) ? 1 : 0;
        }

        int then(int what) {
            if (out(what, 0, 3)) {
                return -2;
            }
            Water after = after();
            if (after == null) {
                return -5;
            }
            return new int[] {after.belowBits(), after.minute, after.tide, after.bubbles.size()}[what];
        }

        int word(int i, int what) {
            if (out(what, 0, 2)) {
                return -2;
            }
            List<int[]> words = water.words();
            if (i == -1) {
                return words.size();
            }
            return out(i, 0, words.size() - 1) ? -1 : words.get(i)[what];
        }

        int votes(int from, int to, int what) {
            if (out(from, 0, 999) || out(to, 0, 999) || out(what, 0, 1)) {
                return -2;
            }
            int ayes = 0;
            int noes = 0;
            for (int[] w : water.words()) {
                if (w[0] >= from && w[0] <= to) {
                    ayes += w[2] == 1 || w[2] == 2 ? 1 : 0;
                    noes += w[2] >= 3 ? 1 : 0;
                }
            }
            return what == 0 ? ayes : noes;
        }

        int falls() {
            Water trial = water.copy();
            int minutes = 0;
            while (trial.belowBits() != 0) {
                trial.minute = 0;
                trial.act(".");
                minutes++;
            }
            return minutes;
        }

        /** Lets the minutes pass one by one and tries every size in each. */
        int speak(int m, int place, int minute, int what) {
            if (!water.isBelow(m)) {
                return -1;
            }
            if (out(place, 0, 9) || out(minute, 0, 999) || out(what, 0, 2)) {
                return -2;
            }
            Map<Integer, Integer> waits = new TreeMap<>();
            Water trial = water.copy();
            for (int wait = 0; trial.isBelow(m); wait++) {
                for (int z = 1; z <= 9; z++) {
                    boolean there = trial.placeAfter(trial.members.get(m).place, trial.up(z)) == place;
                    boolean then = water.minute + wait + trial.up(z) == minute;
                    if (there && then && trial.members.get(m).breath >= z) {
                        waits.put(z, wait);
                    }
                }
                trial.minute = 0;
                trial.act(".");
            }
            if (what == 0) {
                return waits.size();
            }
            if (waits.isEmpty()) {
                return -6;
            }
            int least = waits.keySet().iterator().next();
            return what == 1 ? least : waits.get(least);
        }

        int laws(int costs, int worths, int breath, int what) {
            if (out(costs, 0, 999999) || out(worths, 0, 999999) || out(breath, 0, 54) || out(what, 0, 2)) {
                return -2;
            }
            String c = new StringBuilder(String.format("%06d", costs)).reverse().toString();
            String w = new StringBuilder(String.format("%06d", worths)).reverse().toString();
            int most = -1;
            int which = -1;
            int exact = 0;
            for (int set = 0; set < 64; set++) {
                int cost = 0;
                int worth = 0;
                boolean real = true;
                for (int i = 0; i < 6; i++) {
                    if ((set & 1 << i) != 0) {
                        cost += c.charAt(i) - '0';
                        worth += w.charAt(i) - '0';
                        real &= c.charAt(i) != '0';
                    }
                }
                if (real && cost <= breath && worth > most) {
                    most = worth;
                    which = set;
                }
                exact += real && cost == breath ? 1 : 0;
            }
            return new int[] {most, which, exact}[what];
        }

        private boolean passes(int set) {
            return water.breathOf(set) > water.breathOf(water.belowBits()) / 2.0;
        }

        int power(int m) {
            if (!water.isBelow(m)) {
                return -1;
            }
            int count = 0;
            int others = water.belowBits() - (1 << m);
            for (int set = others; ; set = (set - 1) & others) {
                count += !passes(set) && passes(set + (1 << m)) ? 1 : 0;
                if (set == 0) {
                    return count;
                }
            }
        }

        private boolean notAllBelow(int set) {
            return out(set, 0, 127) || (set | water.belowBits()) != water.belowBits();
        }

        int held(int set, int what) {
            if (notAllBelow(set)) {
                return -1;
            }
            if (out(what, 0, 1)) {
                return -2;
            }
            for (int n = 0; n <= 7; n++) {
                for (int some = 0; some <= set; some++) {
                    if (Integer.bitCount(some) == n && (some & set) == some && !passes(set - some)) {
                        return what == 0 ? n : some;
                    }
                }
            }
            throw new IllegalStateException();
        }

        int hours(int law, int bits) {
            if (out(law, 0, 5)) {
                return -1;
            }
            if (out(bits, 0, 0xFFFFFF)) {
                return -2;
            }
            int was = hours[law];
            hours[law] = bits;
            return was;
        }

        /** Tries every order, one law after another. */
        private int orders(int n, int hour, int used) {
            if (Integer.bitCount(used) == n) {
                return 1;
            }
            int count = 0;
            for (int law = 0; law < n; law++) {
                if ((used & 1 << law) == 0 && (hours[law] & 1 << hour) != 0) {
                    count += orders(n, hour == 23 ? 0 : hour + 1, used | 1 << law);
                }
            }
            return count;
        }

        int seen(int size, int minute, int place) {
            if (out(size, 1, 9) || out(minute, 0, 999) || out(place, 0, 9)) {
                return -2;
            }
            if (sights.size() == 8) {
                return -4;
            }
            sights.add(new int[] {size, minute, place});
            return sights.size();
        }

        int forget() {
            int was = sights.size();
            sights = new ArrayList<>();
            return was;
        }

        int whose() {
            int bits = 0;
            for (int m : water.members.keySet()) {
                boolean all = true;
                for (int[] s : sights) {
                    int up = water.up(s[0]);
                    all &= s[1] - up >= 0 && water.placeAfter(water.members.get(m).place, up) == s[2];
                }
                bits += all ? 1 << m : 0;
            }
            return bits;
        }

        int alike(int i) {
            List<Integer> pairs = new ArrayList<>();
            int bits = whose();
            for (int pair = 0; pair < 70; pair++) {
                int a = pair / 10;
                int b = pair % 10;
                boolean both = a < b && b < 7 && (bits & 1 << a) != 0 && (bits & 1 << b) != 0;
                if (both && water.members.get(a).place == water.members.get(b).place) {
                    pairs.add(pair);
                }
            }
            if (i == -1) {
                return pairs.size();
            }
            return out(i, 0, pairs.size() - 1) ? -6 : pairs.get(i);
        }

        int filibuster(int set, int k, int what) {
            if (notAllBelow(set)) {
                return -1;
            }
            if (out(k, 1, 9) || out(what, 0, 2)) {
                return -2;
            }
            int[] heaps = new int[7];
            for (int m = 0; m < 7; m++) {
                heaps[m] = (set & 1 << m) != 0 ? water.members.get(m).breath : 0;
            }
            int[] grundy = grundy(k);
            int wins = lost(heaps, grundy) ? 1 : 0;
            if (what == 0) {
                return wins;
            }
            for (int m = 0; m < 7; m++) {
                for (int spent = 1; spent <= k && spent <= heaps[m]; spent++) {
                    heaps[m] -= spent;
                    boolean won = lost(heaps, grundy);
                    heaps[m] += spent;
                    if (won) {
                        return what == 1 ? m : spent;
                    }
                }
            }
            return -6;
        }

        private static final Map<String, Boolean> LOST = new HashMap<>();

        /** Small games are played out; of great ones the heaps' numbers, got by the rule of the least missing one, tell. */
        private static boolean lost(int[] heaps, int[] grundy) {
            int all = 0;
            int nim = 0;
            for (int h : heaps) {
                all += h;
                nim ^= grundy[h];
            }
            if (all <= 12) {
                return playedOut(heaps, grundy[100]);
            }
            return nim == 0;
        }

        private static boolean playedOut(int[] heaps, int k) {
            int[] sorted = heaps.clone();
            Arrays.sort(sorted);
            String key = k + Arrays.toString(sorted);
            Boolean known = LOST.get(key);
            if (known != null) {
                return known;
            }
            boolean lost = true;
            for (int i = 0; i < sorted.length && lost; i++) {
                for (int spent = 1; spent <= k && spent <= sorted[i] && lost; spent++) {
                    sorted[i] -= spent;
                    lost = !playedOut(sorted, k);
                    sorted[i] += spent;
                }
            }
            LOST.put(key, lost);
            return lost;
        }

        /** The heaps' numbers 0 to 99, and k behind them. */
        private static int[] grundy(int k) {
            int[] grundy = new int[101];
            for (int h = 0; h < 100; h++) {
                boolean[] met = new boolean[101];
                for (int spent = 1; spent <= k && spent <= h; spent++) {
                    met[grundy[h - spent]] = true;
                }
                while (met[grundy[h]]) {
                    grundy[h]++;
                }
            }
            grundy[100] = k;
            return grundy;
        }

        /** Goes through all cases of the reefs and really breaks the parts. */
        long breaks(int size, int m, int t, int what, int part) {
            if (out(size, 1, 9) || out(m, 0, 6) || out(t, 0, 10) || out(what, 0, 1) || out(part, 0, 1)) {
                return -1000000000000000002L;
            }
            BigInteger upper = BigInteger.ZERO;
            for (int cases = 0; cases < 1 << m; cases++) {
                List<Integer> parts = List.of(size);
                BigInteger chance = BigInteger.ONE;
                for (int reef = 0; reef < m; reef++) {
                    boolean breaks = (cases & 1 << reef) != 0;
                    chance = chance.multiply(BigInteger.valueOf(breaks ? t : 10 - t));
                    parts = breaks ? broken(parts) : parts;
                }
                boolean ones = parts.stream().allMatch(p -> p == 1);
                int weight = what == 0 ? parts.size() : ones ? 1 : 0;
                upper = upper.add(chance.multiply(BigInteger.valueOf(weight)));
            }
            BigInteger lower = BigInteger.TEN.pow(m);
            BigInteger common = upper.gcd(lower);
            return (part == 0 ? upper : lower).divide(common).longValueExact();
        }

        private static List<Integer> broken(List<Integer> parts) {
            List<Integer> more = new ArrayList<>();
            for (int p : parts) {
                if (p == 1) {
                    more.add(1);
                } else {
                    more.add(p / 2);
                    more.add(p - p / 2);
                }
            }
            return more;
        }

        int day(int seed, int m, int what) {
            if (out(seed, 0, 9999) || out(m, 1, 99) || out(what, 0, 2)) {
                return -2;
            }
            Water trial = water.copy();
            long x = seed;
            for (int i = 0; i < m; i++) {
                x = (75 * x + 74) % 65537;
                long member = x / 8 % 7;
                long size = 1 + x / 64 % 9;
                if (x % 8 <= 2) {
                    trial.act(".");
                } else if (x % 8 == 3) {
                    trial.act("~" + x / 8 % 10);
                } else {
                    trial.act((char) ('A' + member) + "" + size);
                }
            }
            int below = trial.belowBits();
            return new int[] {trial.bubbles.size(), trial.breathOf(below), Integer.bitCount(below)}[what];
        }

        int image(int n) {
            if (out(n, 0, 1)) {
                return -2;
            }
            images[n] = new Object[] {water.copy(), new ArrayList<>(sights), hours.clone()};
            return 1;
        }

        @SuppressWarnings("unchecked")
        int restore(int n) {
            if (out(n, 0, 1)) {
                return -2;
            }
            if (images[n] == null) {
                return -3;
            }
            water = ((Water) images[n][0]).copy();
            sights = new ArrayList<>((List<int[]>) images[n][1]);
            hours = ((int[]) images[n][2]).clone();
            return 1;
        }

        int told(int what) {
            int members = 0;
            for (int m : water.members.keySet()) {
                members += 1 << m;
            }
            int[] all = {pad.length(), members, water.belowBits(), water.minute, water.deep, water.tide,
                sights.size(), water.bubbles.size()};
            if (!out(what, 0, 7)) {
                return all[what];
            }
            if (!out(what, 10, 16) && water.members.containsKey(what - 10)) {
                return water.members.get(what - 10).place;
            }
            if (!out(what, 20, 26) && water.members.containsKey(what - 20)) {
                return water.members.get(what - 20).breath;
            }
            return out(what, 30, 35) ? -2 : hours[what - 30];
        }
    }
}
