/** Parliament under water, as ../shared/DOC.md promises it. */
public final class BubbleHouse {
    public static final int NONE = -6, UNKNOWN = -1, OUTSIDE = -2, STATE = -3, FULL = -4, NO = -5;
    public static final long LOST = -1000000000000000000L;

    private static final int MEMBERS = 7, MEMBER_SETS = 128;
    private static final int LAWS = 6, LAW_SETS = 64;
    private static final int PLACES = 10, MOST_BREATH = 99, MOST_SIZE = 9;
    private static final int MOST_DEEP = 40, FIRST_DEEP = 12, MOST_TIDE = 9;
    private static final int BUBBLES = 32, LAST_MINUTE = 99, LAST_TOLD_MINUTE = 999;
    private static final int SIGNS = 60, FIRST_SIGN = 33, LAST_SIGN = 126;
    private static final int HOURS = 24, ALL_HOURS = (1 << HOURS) - 1;
    private static final int SIGHTS = 8, IMAGES = 2, REEFS = 6;
    private static final int NOT_BELOW = 1, TOO_LITTLE_BREATH = 2, BOOK_FULL = 3, TOO_LATE = 4;

    private final House now;
    private final House[] images;
    private final Lagoon trial;
    private final Pad pad;
    private final Sitting sitting;
    private final int[] ways;
    private final long[] chances;

    public BubbleHouse() {
        now = new House();
        images = new House[IMAGES];
        for (int n = 0; n < IMAGES; n++) {
            images[n] = new House();
        }
        trial = new Lagoon();
        pad = new Pad();
        sitting = new Sitting();
        ways = new int[LAW_SETS];
        chances = new long[REEFS + 1];
    }

    // ---- 1 members, the lagoon, sittings

    public int dive(int member, int place, int breath) {
        if (!within(member, 0, MEMBERS - 1)) {
            return UNKNOWN;
        }
        if (!within(place, 0, PLACES - 1) || !within(breath, 0, MOST_BREATH)) {
            return OUTSIDE;
        }
        now.lagoon.seat(member, place, breath);
        return Integer.bitCount(now.lagoon.below);
    }

    public int leave(int member) {
        if (!now.lagoon.isThere(member)) {
            return UNKNOWN;
        }
        now.lagoon.unseat(member);
        return Integer.bitCount(now.lagoon.there);
    }

    public int set(int which, int v) {
        int before;
        if (which == 0 && within(v, 1, MOST_DEEP)) {
            before = now.lagoon.deep;
            now.lagoon.deep = v;
            return before;
        }
        if (which == 1 && within(v, 0, MOST_TIDE)) {
            before = now.lagoon.tide;
            now.lagoon.tide = v;
            return before;
        }
        return OUTSIDE;
    }

    public int close() {
        int before = now.lagoon.book.bubbles;
        now.lagoon.book.clear();
        now.lagoon.minute = 0;
        return before;
    }

    public int say(int sign) {
        if (!within(sign, FIRST_SIGN, LAST_SIGN)) {
            return OUTSIDE;
        }
        if (pad.count >= SIGNS) {
            return FULL;
        }
        pad.add(sign);
        return pad.count;
    }

    public int wipe() {
        int before = pad.count;
        pad.count = 0;
        return before;
    }

    public int fault() {
        return pad.firstFault();
    }

    // ---- 2 sittings, the book

    public int judge(int what) {
        if (!within(what, 0, 1)) {
            return OUTSIDE;
        }
        if (pad.firstFault() != NONE) {
            return NO;
        }
        if (tryPad()) {
            return NONE;
        }
        return what == 0 ? sitting.acts : sitting.why;
    }

    public int done() {
        if (!tryPad()) {
            return NO;
        }
        now.lagoon.copyFrom(trial);
        pad.count = 0;
        return sitting.acts;
    }

    public int behind(int member, int what) {
        if (!now.lagoon.isThere(member)) {
            return UNKNOWN;
        }
        if (!within(what, 0, 1)) {
            return OUTSIDE;
        }
        if (!tryPad()) {
            return NO;
        }
        if (what == 0) {
            return trial.breathOf(member);
        }
        return trial.isBelow(member) ? 1 : 0;
    }

    public int then(int what) {
        if (!within(what, 0, 3)) {
            return OUTSIDE;
        }
        if (!tryPad()) {
            return NO;
        }
        switch (what) {
            case 0: return trial.below;
            case 1: return trial.minute;
            case 2: return trial.tide;
            default: return trial.book.bubbles;
        }
    }

    public int word(int i, int what) {
        if (!within(what, 0, 2)) {
            return OUTSIDE;
        }
        Book book = now.lagoon.book;
        if (i == -1) {
            return book.words;
        }
        if (!within(i, 0, book.words - 1)) {
            return UNKNOWN;
        }
        switch (what) {
            case 0: return book.minuteOf(i);
            case 1: return book.placeOf(i);
            default: return book.sizeOf(i);
        }
    }

    public int votes(int from, int to, int what) {
        if (!within(from, 0, LAST_TOLD_MINUTE) || !within(to, 0, LAST_TOLD_MINUTE) || !within(what, 0, 1)) {
            return OUTSIDE;
        }
        return now.lagoon.book.countVotes(from, to, what == 0);
    }

    public int falls() {
        Lagoon lagoon = now.lagoon;
        int minutes = 0;
        for (int member = 0; member < MEMBERS; member++) {
            if (lagoon.isBelow(member)) {
                // who has no breath still needs one minute more to rise
                minutes = Math.max(minutes, lagoon.breathOf(member) + 1);
            }
        }
        return minutes;
    }

    // ---- 3 words, laws, power

    public int speak(int member, int place, int minute, int what) {
        Lagoon lagoon = now.lagoon;
        if (!lagoon.isBelow(member)) {
            return UNKNOWN;
        }
        if (!within(place, 0, PLACES - 1) || !within(minute, 0, LAST_TOLD_MINUTE) || !within(what, 0, 2)) {
            return OUTSIDE;
        }
        int sizes = 0;
        int least = NONE;
        int leastWait = NONE;
        for (int size = MOST_SIZE; size >= 1; size--) {
            int wait = minute - lagoon.minute - lagoon.minutesUp(size);
            // each minute of waiting costs one breath, so breath for the bubble means that he is below, too
            if (wait >= 0 && lagoon.breathOf(member) - wait >= size && lagoon.placeUp(member, size) == place) {
                sizes++;
                least = size;
                leastWait = wait;
            }
        }
        switch (what) {
            case 0: return sizes;
            case 1: return least;
            default: return leastWait;
        }
    }

    public int laws(int costs, int worths, int breath, int what) {
        if (!within(costs, 0, 999999) || !within(worths, 0, 999999)) {
            return OUTSIDE;
        }
        if (!within(breath, 0, LAWS * 9) || !within(what, 0, 2)) {
            return OUTSIDE;
        }
        int lawful = existingLaws(costs);
        int most = 0;
        int which = 0;
        int exact = 0;
        for (int set = 0; set < LAW_SETS; set++) {
            if ((set & ~lawful) != 0) {
                continue;
            }
            int cost = digitSum(costs, set);
            int worth = digitSum(worths, set);
            if (cost == breath) {
                exact++;
            }
            // sets come rising, so only a truly better one may replace: the least bits stay
            if (cost <= breath && worth > most) {
                most = worth;
                which = set;
            }
        }
        switch (what) {
            case 0: return most;
            case 1: return which;
            default: return exact;
        }
    }

    public int power(int member) {
        Lagoon lagoon = now.lagoon;
        if (!lagoon.isBelow(member)) {
            return UNKNOWN;
        }
        int own = 1 << member;
        int others = lagoon.below & ~own;
        int swings = 0;
        for (int set = 0; set < MEMBER_SETS; set++) {
            if ((set & ~others) == 0 && !lagoon.passes(set) && lagoon.passes(set | own)) {
                swings++;
            }
        }
        return swings;
    }

    public int held(int set, int what) {
        if (!areBelow(set)) {
            return UNKNOWN;
        }
        if (!within(what, 0, 1)) {
            return OUTSIDE;
        }
        int fewest = set;
        for (int some = 0; some < MEMBER_SETS; some++) {
            boolean part = (some & ~set) == 0;
            boolean better = Integer.bitCount(some) < Integer.bitCount(fewest);
            if (part && better && !now.lagoon.passes(set & ~some)) {
                fewest = some;
            }
        }
        return what == 0 ? Integer.bitCount(fewest) : fewest;
    }

    public int hours(int law, int bits) {
        if (!within(law, 0, LAWS - 1)) {
            return UNKNOWN;
        }
        if (!within(bits, 0, ALL_HOURS)) {
            return OUTSIDE;
        }
        int before = now.lawHours[law];
        now.lawHours[law] = bits;
        return before;
    }

    public int orders(int n, int hour) {
        if (!within(n, 1, LAWS) || !within(hour, 0, HOURS - 1)) {
            return OUTSIDE;
        }
        int sets = 1 << n;
        ways[0] = 1;
        for (int set = 1; set < sets && set < LAW_SETS; set++) {
            ways[set] = waysToPass(set, hour);
        }
        return sets <= LAW_SETS ? ways[sets - 1] : 0;
    }

    // ---- 4 whose it was, filibusters

    public int seen(int size, int minute, int place) {
        if (!within(size, 1, MOST_SIZE) || !within(minute, 0, LAST_TOLD_MINUTE) || !within(place, 0, PLACES - 1)) {
            return OUTSIDE;
        }
        if (now.sights.count >= SIGHTS) {
            return FULL;
        }
        now.sights.add(size, minute, place);
        return now.sights.count;
    }

    public int forget() {
        int before = now.sights.count;
        now.sights.count = 0;
        return before;
    }

    public int whose() {
        int bits = 0;
        for (int member = 0; member < MEMBERS; member++) {
            if (now.lagoon.isThere(member) && now.sights.canBeOf(member, now.lagoon)) {
                bits |= 1 << member;
            }
        }
        return bits;
    }

    public int alike(int i) {
        int bits = whose();
        int pairs = 0;
        for (int lesser = 0; lesser < MEMBERS; lesser++) {
            for (int greater = lesser + 1; greater < MEMBERS; greater++) {
                int pair = 1 << lesser | 1 << greater;
                // depth and tide are the same for all: only the place can tell two apart
                if ((pair & ~bits) != 0 || now.lagoon.placeOf(lesser) != now.lagoon.placeOf(greater)) {
                    continue;
                }
                if (pairs == i) {
                    return 10 * lesser + greater;
                }
                pairs++;
            }
        }
        return i == -1 ? pairs : NONE;
    }

    public int filibuster(int set, int k, int what) {
        if (!areBelow(set)) {
            return UNKNOWN;
        }
        if (!within(k, 1, 9) || !within(what, 0, 2)) {
            return OUTSIDE;
        }
        int nim = nimSum(set, k);
        if (what == 0) {
            return nim != 0 ? 0 : 1;
        }
        if (nim == 0) {
            return NONE;
        }
        for (int member = 0; member < MEMBERS; member++) {
            int spent = (set >> member & 1) == 1 ? winningSpend(member, k, nim) : NONE;
            if (spent != NONE) {
                return what == 1 ? member : spent;
            }
        }
        return NONE;
    }

    public long breaks(int size, int m, int t, int what, int part) {
        if (!within(size, 1, MOST_SIZE) || !within(m, 0, REEFS) || !within(t, 0, 10)) {
            return LOST + OUTSIDE;
        }
        if (!within(what, 0, 1) || !within(part, 0, 1)) {
            return LOST + OUTSIDE;
        }
        countBreaks(m, t);
        long upper = 0;
        long lower = 1;
        for (int times = 0; times <= m && times <= REEFS; times++) {
            // halves stay even within 1, so there are 2 to the times parts until all are of size 1
            int parts = Math.min(1 << times, size);
            int weight = what == 0 ? parts : (parts == size ? 1 : 0);
            upper += chances[times] * weight;
            lower *= times == 0 ? 1 : 10;
        }
        return lowestTerms(upper, lower, part);
    }

    public int day(int seed, int m, int what) {
        if (!within(seed, 0, 9999) || !within(m, 1, 99) || !within(what, 0, 2)) {
            return OUTSIDE;
        }
        trial.copyFrom(now.lagoon);
        int x = seed;
        for (int act = 0; act < m; act++) {
            x = (75 * x + 74) % 65537;
            trial.drawnAct(x);
        }
        switch (what) {
            case 0: return trial.book.bubbles;
            case 1: return trial.breathOfAll(trial.below);
            default: return Integer.bitCount(trial.below);
        }
    }

    public int image(int n) {
        if (!within(n, 0, IMAGES - 1)) {
            return OUTSIDE;
        }
        images[n].copyFrom(now);
        images[n].kept = true;
        return 1;
    }

    public int restore(int n) {
        if (!within(n, 0, IMAGES - 1)) {
            return OUTSIDE;
        }
        if (!images[n].kept) {
            return STATE;
        }
        now.copyFrom(images[n]);
        return 1;
    }

    public int told(int what) {
        Lagoon lagoon = now.lagoon;
        switch (what) {
            case 0: return pad.count;
            case 1: return lagoon.there;
            case 2: return lagoon.below;
            case 3: return lagoon.minute;
            case 4: return lagoon.deep;
            case 5: return lagoon.tide;
            case 6: return now.sights.count;
            case 7: return lagoon.book.bubbles;
            default: return toldOfOne(what);
        }
    }

    // ---- helpers

    private static boolean within(int v, int least, int most) {
        return v >= least && v <= most;
    }

    private int toldOfOne(int what) {
        if (within(what, 10, 9 + MEMBERS) && now.lagoon.isThere(what - 10)) {
            return now.lagoon.placeOf(what - 10);
        }
        if (within(what, 20, 19 + MEMBERS) && now.lagoon.isThere(what - 20)) {
            return now.lagoon.breathOf(what - 20);
        }
        if (within(what, 30, 29 + LAWS)) {
            return now.lawHours[what - 30];
        }
        return OUTSIDE;
    }

    /** Tries the pad on a copy, so that a sitting that can not be leaves the house as it is. */
    private boolean tryPad() {
        if (pad.firstFault() != NONE) {
            return false;
        }
        trial.copyFrom(now.lagoon);
        sitting.run(pad, trial);
        return sitting.why == 0;
    }

    private boolean areBelow(int set) {
        return within(set, 0, MEMBER_SETS - 1) && (set & ~now.lagoon.below) == 0;
    }

    private static int existingLaws(int costs) {
        int bits = 0;
        for (int law = 0; law < LAWS; law++) {
            if (digitSum(costs, 1 << law) > 0) {
                bits |= 1 << law;
            }
        }
        return bits;
    }

    private static int digitSum(int number, int set) {
        int sum = 0;
        int rest = number;
        for (int law = 0; law < LAWS; law++) {
            if ((set >> law & 1) == 1) {
                sum += rest % 10;
            }
            rest /= 10;
        }
        return sum;
    }

    /** In how many orders a set of laws passes, the last of them in the set's last hour. */
    private int waysToPass(int set, int firstHour) {
        int hour = (firstHour + Integer.bitCount(set) - 1) % HOURS;
        int sum = 0;
        for (int law = 0; law < LAWS; law++) {
            int before = set & ~(1 << law);
            boolean last = before != set && (now.lawHours[law] >> hour & 1) == 1;
            if (last && before >= 0 && before < LAW_SETS) {
                sum += ways[before];
            }
        }
        return sum;
    }

    /** Who may spend 1 to k of his breath is a heap whose worth is what is left over by k and 1. */
    private static int heapWorth(int breath, int k) {
        return k < 1 ? 0 : breath % (k + 1);
    }

    private int nimSum(int set, int k) {
        int nim = 0;
        for (int member = 0; member < MEMBERS; member++) {
            if ((set >> member & 1) == 1) {
                nim ^= heapWorth(now.lagoon.breathOf(member), k);
            }
        }
        return nim;
    }

    private int winningSpend(int member, int k, int nim) {
        int breath = now.lagoon.breathOf(member);
        int wanted = heapWorth(breath, k) ^ nim;
        for (int spent = 1; spent <= k && spent <= breath; spent++) {
            if (heapWorth(breath - spent, k) == wanted) {
                return spent;
            }
        }
        return NONE;
    }

    /** Leaves in chances[i] by how many of the 10 to the m cases i of m reefs break it. */
    private void countBreaks(int m, int t) {
        for (int times = 0; times <= REEFS; times++) {
            chances[times] = times == 0 ? 1 : 0;
        }
        for (int reef = 0; reef < m; reef++) {
            for (int times = REEFS; times >= 0; times--) {
                long before = times > 0 ? chances[times - 1] : 0;
                chances[times] = chances[times] * (10 - t) + before * t;
            }
        }
    }

    /** The lower number is a power of 10, so that 2 and 5 alone can be common. */
    private static long lowestTerms(long upper, long lower, int part) {
        long above = upper;
        long below = lower;
        for (int i = 0; i < REEFS; i++) {
            if (above % 2 == 0 && below % 2 == 0) {
                above /= 2;
                below /= 2;
            }
            if (above % 5 == 0 && below % 5 == 0) {
                above /= 5;
                below /= 5;
            }
        }
        return part == 0 ? above : below;
    }

    // ---- what the house is made of

    /** Words stay joined and in order, since no call asks for a single bubble. */
    private static final class Book {
        private final int[] keys = new int[BUBBLES];
        private final int[] sizes = new int[BUBBLES];
        private int words;
        private int bubbles;

        void clear() {
            words = 0;
            bubbles = 0;
        }

        void add(int minute, int place, int size) {
            if (bubbles >= BUBBLES) {
                return;
            }
            int key = minute * PLACES + place;
            int at = 0;
            while (at < words && at < BUBBLES - 1 && keys[at] < key) {
                at++;
            }
            if (at == words || keys[at] != key) {
                makeRoom(at);
                keys[at] = key;
                sizes[at] = 0;
            }
            sizes[at] += size;
            bubbles++;
        }

        private void makeRoom(int at) {
            for (int i = BUBBLES - 1; i > at && i > 0; i--) {
                keys[i] = keys[i - 1];
                sizes[i] = sizes[i - 1];
            }
            words++;
        }

        int minuteOf(int i) {
            return i >= 0 && i < BUBBLES ? keys[i] / PLACES : 0;
        }

        int placeOf(int i) {
            return i >= 0 && i < BUBBLES ? keys[i] % PLACES : 0;
        }

        int sizeOf(int i) {
            return i >= 0 && i < BUBBLES ? sizes[i] : 0;
        }

        int countVotes(int from, int to, boolean ayes) {
            int votes = 0;
            for (int i = 0; i < words; i++) {
                boolean aye = sizeOf(i) <= 2;
                if (within(minuteOf(i), from, to) && aye == ayes) {
                    votes++;
                }
            }
            return votes;
        }

        void copyFrom(Book other) {
            for (int i = 0; i < BUBBLES; i++) {
                keys[i] = other.keys[i];
                sizes[i] = other.sizes[i];
            }
            words = other.words;
            bubbles = other.bubbles;
        }
    }

    /** All that a sitting looks at or changes. */
    private static final class Lagoon {
        private final int[] places = new int[MEMBERS];
        private final int[] breaths = new int[MEMBERS];
        private final Book book = new Book();
        private int there;
        private int below;
        private int deep = FIRST_DEEP;
        private int tide;
        private int minute;

        void seat(int member, int place, int breath) {
            if (member < 0 || member >= MEMBERS) {
                return;
            }
            places[member] = place;
            breaths[member] = breath;
            there |= 1 << member;
            below |= 1 << member;
        }

        void unseat(int member) {
            there &= ~(1 << member);
            below &= ~(1 << member);
        }

        boolean isThere(int member) {
            return member >= 0 && member < MEMBERS && (there >> member & 1) == 1;
        }

        boolean isBelow(int member) {
            return member >= 0 && member < MEMBERS && (below >> member & 1) == 1;
        }

        int placeOf(int member) {
            return member >= 0 && member < MEMBERS ? places[member] : 0;
        }

        int breathOf(int member) {
            return member >= 0 && member < MEMBERS ? breaths[member] : 0;
        }

        int breathOfAll(int set) {
            int sum = 0;
            for (int member = 0; member < MEMBERS; member++) {
                if ((set >> member & 1) == 1) {
                    sum += breaths[member];
                }
            }
            return sum;
        }

        boolean passes(int set) {
            return 2 * breathOfAll(set) > breathOfAll(below);
        }

        int minutesUp(int size) {
            return size < 1 ? 0 : (deep + size - 1) / size;
        }

        int placeUp(int member, int size) {
            return (placeOf(member) + minutesUp(size) * tide) % PLACES;
        }

        int whyNoBubble(int member, int size) {
            if (!isBelow(member)) {
                return NOT_BELOW;
            }
            if (breathOf(member) < size) {
                return TOO_LITTLE_BREATH;
            }
            return book.bubbles >= BUBBLES ? BOOK_FULL : 0;
        }

        int makeBubble(int member, int size) {
            int why = whyNoBubble(member, size);
            if (why == 0 && member >= 0 && member < MEMBERS) {
                breaths[member] -= size;
                book.add(minute + minutesUp(size), placeUp(member, size), size);
            }
            return why;
        }

        int rise(int member) {
            if (!isBelow(member)) {
                return NOT_BELOW;
            }
            below &= ~(1 << member);
            return 0;
        }

        int passMinute() {
            if (minute >= LAST_MINUTE) {
                return TOO_LATE;
            }
            minute++;
            for (int member = 0; member < MEMBERS; member++) {
                if (!isBelow(member)) {
                    continue;
                }
                if (breaths[member] == 0) {
                    below &= ~(1 << member);
                } else {
                    breaths[member]--;
                }
            }
            return 0;
        }

        /** A drawn act that can not be is let go, so nobody looks at why. */
        void drawnAct(int x) {
            int kind = x % 8;
            if (kind < 3) {
                passMinute();
            } else if (kind == 3) {
                tide = x / 8 % 10;
            } else {
                makeBubble(x / 8 % 7, 1 + x / 64 % 9);
            }
        }

        void copyFrom(Lagoon other) {
            for (int member = 0; member < MEMBERS; member++) {
                places[member] = other.places[member];
                breaths[member] = other.breaths[member];
            }
            book.copyFrom(other.book);
            there = other.there;
            below = other.below;
            deep = other.deep;
            tide = other.tide;
            minute = other.minute;
        }
    }

    private static final class Sights {
        private final int[] sizes = new int[SIGHTS];
        private final int[] minutes = new int[SIGHTS];
        private final int[] places = new int[SIGHTS];
        private int count;

        void add(int size, int minute, int place) {
            if (!within(count, 0, SIGHTS - 1)) {
                return;
            }
            sizes[count] = size;
            minutes[count] = minute;
            places[count] = place;
            count++;
        }

        boolean canBeOf(int member, Lagoon lagoon) {
            for (int i = 0; i < count && i < SIGHTS; i++) {
                boolean inTime = minutes[i] >= lagoon.minutesUp(sizes[i]);
                if (!inTime || lagoon.placeUp(member, sizes[i]) != places[i]) {
                    return false;
                }
            }
            return true;
        }

        void copyFrom(Sights other) {
            for (int i = 0; i < SIGHTS; i++) {
                sizes[i] = other.sizes[i];
                minutes[i] = other.minutes[i];
                places[i] = other.places[i];
            }
            count = other.count;
        }
    }

    /** All that an image keeps. */
    private static final class House {
        private final Lagoon lagoon = new Lagoon();
        private final Sights sights = new Sights();
        private final int[] lawHours = new int[LAWS];
        private boolean kept;

        House() {
            for (int law = 0; law < LAWS; law++) {
                lawHours[law] = ALL_HOURS;
            }
        }

        void copyFrom(House other) {
            lagoon.copyFrom(other.lagoon);
            sights.copyFrom(other.sights);
            for (int law = 0; law < LAWS; law++) {
                lawHours[law] = other.lawHours[law];
            }
        }
    }

    private static final class Pad {
        private final int[] signs = new int[SIGNS];
        private int count;

        void add(int sign) {
            if (within(count, 0, SIGNS - 1)) {
                signs[count] = sign;
                count++;
            }
        }

        int signAt(int at) {
            return within(at, 0, SIGNS - 1) ? signs[at] : 0;
        }

        int firstFault() {
            int at = 0;
            while (at < count) {
                int sign = signAt(at);
                if (sign == '.') {
                    at++;
                    continue;
                }
                if (sign != '~' && !within(sign, 'A', 'G')) {
                    return at;
                }
                if (at + 1 >= count) {
                    return count;
                }
                if (!canFollow(sign, signAt(at + 1))) {
                    return at + 1;
                }
                at += 2;
            }
            return NONE;
        }

        private static boolean canFollow(int first, int second) {
            if (first == '~') {
                return within(second, '0', '9');
            }
            return second == '^' || within(second, '1', '9');
        }
    }

    /** What came of the last sitting that was run. */
    private static final class Sitting {
        private int acts;
        private int why;

        void run(Pad pad, Lagoon lagoon) {
            acts = 0;
            why = 0;
            int at = 0;
            while (at < pad.count) {
                int sign = pad.signAt(at);
                why = act(lagoon, sign, pad.signAt(at + 1));
                if (why != 0) {
                    return;
                }
                acts++;
                at += sign == '.' ? 1 : 2;
            }
        }

        private static int act(Lagoon lagoon, int sign, int next) {
            if (sign == '.') {
                return lagoon.passMinute();
            }
            if (sign == '~') {
                lagoon.tide = next - '0';
                return 0;
            }
            if (next == '^') {
                return lagoon.rise(sign - 'A');
            }
            return lagoon.makeBubble(sign - 'A', next - '0');
        }
    }
}
