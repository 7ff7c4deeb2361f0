/** The edges of promises 22 to 31 and of the Terms that show in them: whose it was, filibusters, days, images. */
public final class SightsEdgesTest extends Edges {
    private static final long LOST_OUTSIDE = -1000000000000000002L;
    private static final int ALL_HOURS = 16777215;

    public static void main(String[] args) {
        run(SightsEdgesTest.class, 22, 31);
    }

    // ---- promise 22: seen

    static void promise22_seen_aSizeBelow1OrAbove9IsOutside() {
        for (int size : new int[] {0, 10, -1, LEAST, MOST}) {
            refused(OUTSIDE, Edges::busy, x -> x.seen(size, 10, 7));
        }
    }

    static void promise22_seen_aMinuteBelow0OrAbove999IsOutside() {
        for (int minute : new int[] {-1, 1000, LEAST, MOST}) {
            refused(OUTSIDE, Edges::busy, x -> x.seen(4, minute, 7));
        }
    }

    static void promise22_seen_aPlaceBelow0OrAbove9IsOutside() {
        for (int place : new int[] {-1, 10, LEAST, MOST}) {
            refused(OUTSIDE, Edges::busy, x -> x.seen(4, 10, place));
        }
    }

    static void promise22_seen_theEndsStand() {
        BubbleHouse x = fresh();
        due(x.seen(1, 5, 5), 1);
        due(x.seen(9, 5, 5), 2);
        due(x.seen(5, 0, 5), 3);
        due(x.seen(5, 999, 5), 4);
        due(x.seen(5, 5, 0), 5);
        due(x.seen(5, 5, 9), 6);
        due(x.told(6), 6);
    }

    static void promise22_seen_eightSightsFitAlsoTheSameOne() {
        BubbleHouse x = fresh();
        for (int i = 1; i <= 8; i++) {
            due(x.seen(3, 4, 2), i);
        }
        due(x.told(6), 8);
    }

    static void promise22_seen_theNinthIsFull() {
        refused(FULL, Edges::fullSights, x -> x.seen(4, 10, 7));
        refused(FULL, Edges::fullSights, x -> x.seen(1, 0, 0));
        refused(FULL, Edges::fullSights, x -> x.seen(9, 999, 9));
    }

    static void promise22_seen_outsideComesAheadOfFull() {
        refused(OUTSIDE, Edges::fullSights, x -> x.seen(0, 10, 7));
        refused(OUTSIDE, Edges::fullSights, x -> x.seen(10, 10, 7));
        refused(OUTSIDE, Edges::fullSights, x -> x.seen(4, 1000, 7));
        refused(OUTSIDE, Edges::fullSights, x -> x.seen(4, 10, 10));
    }

    // ---- promise 23: forget

    static void promise23_forget_noSightsAnswer0() {
        due(fresh().forget(), 0);
        unchanged(Edges::fresh, x -> x.forget());
    }

    static void promise23_forget_eightSightsGo() {
        BubbleHouse x = fullSights();
        due(x.forget(), 8);
        due(x.told(6), 0);
        due(x.forget(), 0);
    }

    static void promise23_forget_thereIsRoomAgain() {
        BubbleHouse x = fullSights();
        x.forget();
        for (int i = 1; i <= 8; i++) {
            due(x.seen(4, 10, 7), i);
        }
        due(x.seen(4, 10, 7), FULL);
    }

    static void promise23_forget_whatWasSeenDoesNotCount() {
        BubbleHouse x = three();
        x.seen(1, 0, 0);
        due(x.whose(), 0);
        x.forget();
        due(x.whose(), 7);
        x.seen(3, 4, 7);
        due(x.whose(), 4);
    }

    static void promise23_forget_nothingElseGoes() {
        BubbleHouse x = busy();
        due(x.forget(), 2);
        due(x.told(0), 5);
        due(x.told(1), 15);
        due(x.told(7), 5);
        due(x.restore(0), 1);
    }

    // ---- promise 24: whose

    private static BubbleHouse see(BubbleHouse x, int size, int minute, int place) {
        x.seen(size, minute, place);
        return x;
    }

    static void promise24_whose_withNobodyThere() {
        due(fresh().whose(), 0);
        due(see(fresh(), 3, 4, 0).whose(), 0);
    }

    static void promise24_whose_withoutSightsAllWhoAreThere() {
        due(three().whose(), 7);
        due(seven(3, 0).whose(), 127);
        due(one(6, 0, 0).whose(), 64);
    }

    static void promise24_whose_madeInMinute0IsTheEarliest() {
        due(see(three(), 3, 4, 2).whose(), 3);
        due(see(three(), 3, 3, 2).whose(), 0);
        due(see(three(), 1, 12, 2).whose(), 3);
        due(see(three(), 1, 11, 2).whose(), 0);
        due(see(three(), 9, 0, 2).whose(), 0);
        BubbleHouse x = three();
        x.set(0, 40);
        due(see(x, 1, 40, 2).whose(), 3);
        due(see(x, 1, 39, 2).whose(), 0);
    }

    static void promise24_whose_whatIsOverOfDeepBySizeCountsAsOneMinute() {
        due(see(three(), 5, 3, 2).whose(), 3);
        due(see(three(), 5, 2, 2).whose(), 0);
        BubbleHouse x = three();
        x.set(0, 1);
        due(see(x, 9, 1, 2).whose(), 3);
        due(see(x, 9, 0, 2).whose(), 0);
    }

    static void promise24_whose_minute999IsTheLatest() {
        due(see(three(), 1, 999, 2).whose(), 3);
        due(see(three(), 9, 999, 7).whose(), 4);
    }

    static void promise24_whose_behindPlace9ComesPlace0() {
        for (int place = 0; place <= 9; place++) {
            BubbleHouse x = one(0, place, 0);
            x.set(0, 1);
            for (int tide = 0; tide <= 9; tide++) {
                x.set(1, tide);
                for (int at = 0; at <= 9; at++) {
                    x.forget();
                    due(see(x, 1, 1, at).whose(), at == (place + tide) % 10 ? 1 : 0);
                }
            }
        }
    }

    static void promise24_whose_theRingIsGoneRoundManyTimes() {
        BubbleHouse x = one(0, 9, 0);
        x.set(0, 39);
        x.set(1, 9);
        due(see(x, 1, 39, 0).whose(), 1);
        x.set(0, 40);
        due(x.whose(), 0);
    }

    static void promise24_whose_allSightsByTheSameOne() {
        BubbleHouse x = see(three(), 3, 4, 2);
        due(x.whose(), 3);
        due(see(x, 3, 4, 7).whose(), 0);
    }

    static void promise24_whose_theFirstAndTheEighthSightCount() {
        for (int other = 0; other < 8; other++) {
            BubbleHouse x = three();
            for (int i = 0; i < 8; i++) {
                x.seen(3, 4, i == other ? 7 : 2);
            }
            due(x.whose(), 0);
            x.dive(0, 7, 0);
            due(x.whose(), 0);
        }
    }

    static void promise24_whose_deepTideAndPlacesAreThoseOfNow() {
        BubbleHouse x = see(three(), 3, 4, 2);
        x.set(0, 13);
        due(x.whose(), 0);
        x.set(0, 9);
        due(x.whose(), 3);
        x.set(1, 5);
        due(x.whose(), 4);
        x.dive(3, 7, 0);
        due(x.whose(), 12);
        sit(x, "~0");
        due(x.whose(), 3);
    }

    static void promise24_whose_breathAndBelowDoNotCount() {
        BubbleHouse x = see(three(), 9, 5, 7);
        due(x.whose(), 4);
        sit(x, "C^");
        due(x.whose(), 4);
    }

    static void promise24_whose_whoHasLeftDoesNotCount() {
        BubbleHouse x = see(three(), 3, 4, 2);
        x.leave(0);
        due(x.whose(), 2);
    }

    static void promise24_whose_asksOnly() {
        unchanged(Edges::busy, x -> x.whose());
        unchanged(Edges::fullSights, x -> x.whose());
    }

    // ---- promise 25: alike

    private static void pairs(BubbleHouse x, int... due) {
        due(x.alike(-1), due.length);
        for (int i = 0; i < due.length; i++) {
            due(x.alike(i), due[i]);
        }
        due(x.alike(due.length), NONE);
    }

    static void promise25_alike_belowMinus1IsNone() {
        for (int i : new int[] {-2, -3, LEAST, LEAST + 1}) {
            refused(NONE, Edges::busy, x -> x.alike(i));
            refused(NONE, Edges::fresh, x -> x.alike(i));
            due(seven(0, 0).alike(i), NONE);
        }
    }

    static void promise25_alike_behindTheLastIsNone() {
        for (int i : new int[] {21, 22, MOST}) {
            due(seven(0, 0).alike(i), NONE);
        }
        due(seven(0, 0).alike(20), 56);
        refused(NONE, Edges::busy, x -> x.alike(1));
        refused(NONE, Edges::fresh, x -> x.alike(0));
    }

    static void promise25_alike_nobodyOneAndTwo() {
        pairs(fresh());
        pairs(one(0, 0, 0));
        BubbleHouse x = one(0, 4, 0);
        x.dive(6, 4, 0);
        pairs(x, 6);
        x.dive(6, 5, 0);
        pairs(x);
    }

    static void promise25_alike_allSevenAt1Place() {
        pairs(seven(9, 0), 1, 2, 3, 4, 5, 6, 12, 13, 14, 15, 16, 23, 24, 25, 26, 34, 35, 36, 45, 46, 56);
    }

    static void promise25_alike_places0And9AreNotTheSame() {
        BubbleHouse x = one(0, 0, 0);
        x.dive(1, 9, 0);
        pairs(x);
        x.dive(2, 0, 0);
        x.dive(3, 9, 0);
        pairs(x, 2, 13);
    }

    static void promise25_alike_ofThoseByWhomAllSightsCanBe() {
        BubbleHouse x = three();
        x.dive(3, 7, 0);
        pairs(x, 1, 23);
        see(x, 3, 4, 7);
        pairs(x, 23);
        see(x, 3, 4, 2);
        pairs(x);
    }

    static void promise25_alike_breathAndBelowDoNotCount() {
        BubbleHouse x = three();
        x.dive(3, 7, 99);
        sit(x, "A^D^");
        pairs(x, 1, 23);
    }

    static void promise25_alike_whoHasLeftDoesNotCount() {
        BubbleHouse x = seven(0, 0);
        x.leave(0);
        due(x.alike(-1), 15);
        due(x.alike(0), 12);
    }

    static void promise25_alike_asksOnly() {
        unchanged(Edges::busy, x -> x.alike(-1) + x.alike(0));
    }

    // ---- promise 26: filibuster

    private static void turns(BubbleHouse x, int set, int k, int who, int member, int spent) {
        due(x.filibuster(set, k, 0), who);
        due(x.filibuster(set, k, 1), member);
        due(x.filibuster(set, k, 2), spent);
    }

    private static BubbleHouse two(int breath, int other) {
        BubbleHouse x = one(0, 0, breath);
        x.dive(1, 0, other);
        return x;
    }

    static void promise26_filibuster_aSetBelow0OrAbove127IsUnknown() {
        for (int set : new int[] {-1, 128, 129, 256, -128, LEAST, MOST}) {
            refused(UNKNOWN, Edges::busy, x -> x.filibuster(set, 3, 0));
            refused(UNKNOWN, () -> seven(0, 5), x -> x.filibuster(set, 3, 1));
        }
    }

    static void promise26_filibuster_oneWhoIsNotBelowIsUnknown() {
        for (int set : new int[] {4, 8, 16, 64, 5, 9, 17, 65, 7, 127}) {
            refused(UNKNOWN, Edges::busy, x -> x.filibuster(set, 3, 0));
        }
    }

    static void promise26_filibuster_kBelow1OrAbove9IsOutside() {
        for (int k : new int[] {0, 10, -1, LEAST, MOST}) {
            refused(OUTSIDE, Edges::busy, x -> x.filibuster(3, k, 0));
        }
    }

    static void promise26_filibuster_whatBelow0OrAbove2IsOutside() {
        for (int what : new int[] {-1, 3, LEAST, MOST}) {
            refused(OUTSIDE, Edges::busy, x -> x.filibuster(3, 3, what));
        }
    }

    static void promise26_filibuster_unknownComesAheadOfOutside() {
        refused(UNKNOWN, Edges::busy, x -> x.filibuster(128, 0, 0));
        refused(UNKNOWN, Edges::busy, x -> x.filibuster(-1, 3, 3));
        refused(UNKNOWN, Edges::busy, x -> x.filibuster(4, 10, -1));
    }

    static void promise26_filibuster_nobodyCanNotSpeak() {
        turns(fresh(), 0, 1, 1, NONE, NONE);
        turns(three(), 0, 9, 1, NONE, NONE);
    }

    static void promise26_filibuster_withoutBreathWhoBeginsHasLost() {
        turns(one(0, 0, 0), 1, 1, 1, NONE, NONE);
        turns(seven(0, 0), 127, 9, 1, NONE, NONE);
    }

    static void promise26_filibuster_1ToKOfHisBreath() {
        for (int k = 1; k <= 9; k++) {
            turns(one(0, 0, 1), 1, k, 0, 0, 1);
            turns(one(0, 0, k), 1, k, 0, 0, k);
            turns(one(0, 0, k + 1), 1, k, 1, NONE, NONE);
            turns(one(0, 0, k + 2), 1, k, 0, 0, 1);
            turns(one(0, 0, 2 * k + 2), 1, k, 1, NONE, NONE);
        }
    }

    static void promise26_filibuster_breath99IsTheMost() {
        turns(one(6, 0, 99), 64, 1, 0, 6, 1);
        turns(one(6, 0, 99), 64, 9, 0, 6, 9);
        turns(one(6, 0, 99), 64, 2, 1, NONE, NONE);
        turns(one(6, 0, 99), 64, 8, 1, NONE, NONE);
    }

    static void promise26_filibuster_theLeastMemberWins() {
        turns(seven(0, 1), 127, 1, 0, 0, 1);
        turns(seven(0, 1), 126, 1, 1, NONE, NONE);
        turns(seven(0, 1), 124, 1, 0, 2, 1);
        turns(seven(0, 1), 64, 1, 0, 6, 1);
    }

    static void promise26_filibuster_aLesserMemberMayNotWin() {
        turns(two(1, 5), 3, 9, 0, 1, 4);
        turns(two(0, 5), 3, 9, 0, 1, 5);
        turns(two(5, 1), 3, 9, 0, 0, 4);
        turns(two(5, 5), 3, 9, 1, NONE, NONE);
    }

    static void promise26_filibuster_whoHasEnoughMayLeaveAGreaterRest() {
        turns(two(4, 3), 3, 3, 0, 0, 1);
        turns(two(4, 1), 3, 3, 0, 0, 3);
        turns(two(0, 3), 3, 3, 0, 1, 3);
    }

    static void promise26_filibuster_othersDoNotCount() {
        turns(two(3, 3), 1, 9, 0, 0, 3);
        turns(two(3, 3), 2, 9, 0, 1, 3);
    }

    static void promise26_filibuster_asksOnly() {
        for (int what = 0; what <= 2; what++) {
            int w = what;
            unchanged(Edges::busy, x -> x.filibuster(3, 4, w));
        }
    }

    // ---- promise 27: breaks

    private static void parts(int size, int m, int t, long meanUpper, long meanLower, long onesUpper, long onesLower) {
        due(fresh().breaks(size, m, t, 0, 0), meanUpper);
        due(fresh().breaks(size, m, t, 0, 1), meanLower);
        due(fresh().breaks(size, m, t, 1, 0), onesUpper);
        due(fresh().breaks(size, m, t, 1, 1), onesLower);
    }

    private static void lost(Call call) {
        due(call.on(busy()), LOST_OUTSIDE);
        unchanged(Edges::busy, call);
    }

    static void promise27_breaks_aSizeBelow1OrAbove9IsLost() {
        for (int size : new int[] {0, 10, -1, LEAST, MOST}) {
            lost(x -> x.breaks(size, 3, 5, 0, 0));
        }
    }

    static void promise27_breaks_reefsBelow0OrAbove6AreLost() {
        for (int m : new int[] {-1, 7, LEAST, MOST}) {
            lost(x -> x.breaks(5, m, 5, 0, 0));
        }
    }

    static void promise27_breaks_tenthsBelow0OrAbove10AreLost() {
        for (int t : new int[] {-1, 11, LEAST, MOST}) {
            lost(x -> x.breaks(5, 3, t, 0, 0));
        }
    }

    static void promise27_breaks_whatBelow0OrAbove1IsLost() {
        for (int what : new int[] {-1, 2, LEAST, MOST}) {
            lost(x -> x.breaks(5, 3, 5, what, 0));
        }
    }

    static void promise27_breaks_aPartBelow0OrAbove1IsLost() {
        for (int part : new int[] {-1, 2, LEAST, MOST}) {
            lost(x -> x.breaks(5, 3, 5, 0, part));
            lost(x -> x.breaks(5, 3, 5, 1, part));
        }
    }

    static void promise27_breaks_withoutReefsNothingBreaks() {
        parts(1, 0, 10, 1, 1, 1, 1);
        for (int size = 2; size <= 9; size++) {
            parts(size, 0, 10, 1, 1, 0, 1);
        }
    }

    static void promise27_breaks_by0TenthsNothingBreaks() {
        parts(1, 6, 0, 1, 1, 1, 1);
        for (int size = 2; size <= 9; size++) {
            parts(size, 6, 0, 1, 1, 0, 1);
        }
    }

    static void promise27_breaks_size1NeverBreaks() {
        for (int m = 0; m <= 6; m++) {
            parts(1, m, 5, 1, 1, 1, 1);
            parts(1, m, 10, 1, 1, 1, 1);
        }
    }

    static void promise27_breaks_by10TenthsAllBreaks() {
        for (int m = 0; m <= 6; m++) {
            int[] most = {1, 2, 4, 8, 16, 32, 64};
            for (int size = 1; size <= 9; size++) {
                boolean ones = size <= most[m];
                parts(size, m, 10, ones ? size : most[m], 1, ones ? 1 : 0, 1);
            }
        }
    }

    static void promise27_breaks_sixReefsAreTheMost() {
        parts(9, 6, 5, 431, 64, 11, 32);
        parts(9, 6, 3, 4135231, 1000000, 7047, 100000);
        parts(2, 6, 1, 1468559, 1000000, 468559, 1000000);
        parts(2, 6, 9, 1999999, 1000000, 999999, 1000000);
    }

    static void promise27_breaks_lowestTerms() {
        parts(2, 1, 2, 6, 5, 1, 5);
        parts(2, 1, 5, 3, 2, 1, 2);
        parts(2, 1, 1, 11, 10, 1, 10);
        parts(2, 1, 10, 2, 1, 1, 1);
        parts(3, 1, 4, 7, 5, 0, 1);
        parts(3, 2, 5, 2, 1, 1, 4);
    }

    static void promise27_breaks_asksOnly() {
        unchanged(Edges::busy, x -> x.breaks(9, 6, 3, 0, 0));
    }

    // ---- promise 28: day

    private static int drawn(int x) {
        return (75 * x + 74) % 65537;
    }

    private static String actOf(int x) {
        switch (x % 8) {
            case 0: case 1: case 2: return ".";
            case 3: return "~" + x / 8 % 10;
            default: return "" + (char) ('A' + x / 8 % 7) + (1 + x / 64 % 9);
        }
    }

    private static int seedOf(String act) {
        for (int seed = 0; seed <= 9999; seed++) {
            if (actOf(drawn(seed)).equals(act)) {
                return seed;
            }
        }
        throw new IllegalStateException(act);
    }

    private static void days(BubbleHouse x, int seed, int m, int bubbles, int breath, int below) {
        due(x.day(seed, m, 0), bubbles);
        due(x.day(seed, m, 1), breath);
        due(x.day(seed, m, 2), below);
    }

    /** A day must come out as sittings of one drawn act each, of which those that can not be are left. */
    private static void asSittings(Start start, int seed, int m) {
        BubbleHouse x = start.make();
        int v = seed;
        for (int i = 0; i < m; i++) {
            v = drawn(v);
            write(x, actOf(v)).done();
        }
        int breath = 0;
        for (int member = 0; member <= 6; member++) {
            breath += (x.told(2) >> member & 1) == 1 ? x.told(20 + member) : 0;
        }
        days(start.make(), seed, m, x.told(7), breath, Integer.bitCount(x.told(2)));
    }

    private static BubbleHouse uneven() {
        BubbleHouse x = fresh();
        for (int m = 0; m <= 6; m++) {
            x.dive(m, m, 99 - 16 * m);
        }
        return x;
    }

    static void promise28_day_aSeedBelow0OrAbove9999IsOutside() {
        for (int seed : new int[] {-1, 10000, LEAST, MOST}) {
            refused(OUTSIDE, Edges::busy, x -> x.day(seed, 5, 0));
        }
    }

    static void promise28_day_actsBelow1OrAbove99AreOutside() {
        for (int m : new int[] {0, 100, -1, LEAST, MOST}) {
            refused(OUTSIDE, Edges::busy, x -> x.day(5, m, 0));
        }
    }

    static void promise28_day_whatBelow0OrAbove2IsOutside() {
        for (int what : new int[] {-1, 3, LEAST, MOST}) {
            refused(OUTSIDE, Edges::busy, x -> x.day(5, 5, what));
        }
    }

    static void promise28_day_seeds0And9999AreTheEnds() {
        for (int m : new int[] {1, 2, 50, 99}) {
            asSittings(SightsEdgesTest::uneven, 0, m);
            asSittings(SightsEdgesTest::uneven, 9999, m);
        }
    }

    static void promise28_day_acts1And99AreTheEnds() {
        for (int seed = 0; seed <= 9999; seed += 303) {
            asSittings(SightsEdgesTest::uneven, seed, 1);
            asSittings(SightsEdgesTest::uneven, seed, 98);
            asSittings(SightsEdgesTest::uneven, seed, 99);
        }
    }

    static void promise28_day_drawsAreLeftOverBy65537() {
        due(drawn(872), 65474);
        due(drawn(873), 12);
        asSittings(SightsEdgesTest::uneven, 872, 1);
        asSittings(SightsEdgesTest::uneven, 873, 1);
        days(three(), 873, 1, 1, 13, 3);
    }

    static void promise28_day_0To2AreAMinute3TheTide4To7ABubble() {
        boolean[] met = new boolean[8];
        for (int seed = 0; seed <= 9999; seed++) {
            int rest = drawn(seed) % 8;
            if (!met[rest]) {
                met[rest] = true;
                days(seven(0, 50), seed, 1, rest > 3 ? 1 : 0, rest > 3 ? 349 - drawn(seed) / 64 % 9
                    : rest < 3 ? 343 : 350, 7);
            }
        }
        for (boolean rest : met) {
            due(rest ? 1 : 0, 1);
        }
    }

    static void promise28_day_members0And6Sizes1And9AreTheEnds() {
        for (int member = 0; member <= 6; member++) {
            for (int size = 1; size <= 9; size++) {
                int seed = seedOf("" + (char) ('A' + member) + size);
                days(one(member, 0, size), seed, 1, 1, 0, 1);
                days(one(member, 0, size - 1), seed, 1, 0, size - 1, 1);
                BubbleHouse x = seven(0, 9);
                x.leave(member);
                days(x, seed, 1, 0, 54, 6);
            }
        }
    }

    static void promise28_day_whoHasNoBreathRises() {
        int minute = seedOf(".");
        days(three(), minute, 1, 0, 12, 2);
        days(one(0, 0, 1), minute, 1, 0, 0, 1);
        days(one(0, 0, 0), minute, 1, 0, 0, 0);
        days(seven(0, 0), minute, 1, 0, 0, 0);
    }

    static void promise28_day_whoHasRisenMakesNoBubble() {
        BubbleHouse x = sit(seven(0, 9), "C^");
        days(x, seedOf("C1"), 1, 0, 54, 6);
        days(x, seedOf("D1"), 1, 1, 53, 6);
    }

    static void promise28_day_withNobodyThere() {
        for (int seed = 0; seed <= 9999; seed += 909) {
            days(fresh(), seed, 99, 0, 0, 0);
        }
    }

    static void promise28_day_a33rdBubbleIsNotMade() {
        Start start = () -> {
            BubbleHouse x = fill(one(0, 0, 99), 31);
            x.dive(0, 0, 99);
            return x;
        };
        days(start.make(), seedOf("A1"), 1, 32, 98, 1);
        days(fullBook(), seedOf("A1"), 1, 32, 67, 1);
        for (int seed = 0; seed <= 9999; seed += 909) {
            asSittings(start, seed, 60);
        }
    }

    static void promise28_day_noMinutePassesBehindMinute99() {
        int minute = seedOf(".");
        days(minute98(), minute, 1, 0, 8, 1);
        days(twoInMinute99(), minute, 1, 0, 9, 2);
        for (int seed = 0; seed <= 9999; seed += 909) {
            asSittings(Edges::minute98, seed, 60);
        }
    }

    static void promise28_day_thePadDoesNotCount() {
        BubbleHouse x = write(three(), "A1A");
        days(x, seedOf("A1"), 1, 1, 13, 3);
        due(x.told(0), 3);
    }

    static void promise28_day_nothingIsDoneInFact() {
        for (int what = 0; what <= 2; what++) {
            int w = what;
            unchanged(Edges::busy, x -> x.day(77, 99, w));
        }
    }

    // ---- promise 29: image

    static void promise29_image_nBelow0OrAbove1IsOutside() {
        for (int n : new int[] {-1, 2, LEAST, MOST}) {
            refused(OUTSIDE, Edges::busy, x -> x.image(n));
        }
    }

    static void promise29_image_0And1AreTheEnds() {
        BubbleHouse x = three();
        due(x.image(0), 1);
        x.leave(0);
        due(x.image(1), 1);
        x.leave(1);
        x.restore(0);
        due(x.told(1), 7);
        x.restore(1);
        due(x.told(1), 6);
    }

    static void promise29_image_keptAnewTheOldOneIsLost() {
        BubbleHouse x = three();
        due(x.image(1), 1);
        x.leave(0);
        due(x.image(1), 1);
        x.leave(1);
        x.restore(1);
        due(x.told(1), 6);
    }

    static void promise29_image_thePadIsNotKept() {
        BubbleHouse x = write(three(), "A1");
        x.image(0);
        x.wipe();
        x.restore(0);
        due(x.told(0), 0);
        due(x.done(), 0);
    }

    static void promise29_image_ofANewObject() {
        BubbleHouse x = fresh();
        due(x.image(0), 1);
        x.dive(3, 3, 3);
        x.set(0, 40);
        x.hours(2, 2);
        sit(x, "D1~9.");
        see(x, 1, 1, 1);
        x.restore(0);
        int[] due = {0, 0, 0, 0, 12, 0, 0, 0};
        for (int what = 0; what <= 7; what++) {
            due(x.told(what), due[what]);
        }
        due(x.told(32), ALL_HOURS);
        due(x.word(-1, 0), 0);
    }

    static void promise29_image_nothingElseChanges() {
        for (int n = 0; n <= 1; n++) {
            BubbleHouse x = busy();
            x.image(n);
            due(x.told(0), 5);
            due(x.told(1), 15);
            due(x.told(3), 2);
            due(x.told(6), 2);
            due(x.told(7), 5);
        }
    }

    // ---- promise 30: restore

    static void promise30_restore_nBelow0OrAbove1IsOutside() {
        for (int n : new int[] {-1, 2, LEAST, MOST}) {
            refused(OUTSIDE, Edges::busy, x -> x.restore(n));
            refused(OUTSIDE, Edges::fresh, x -> x.restore(n));
        }
    }

    static void promise30_restore_anImageNeverKeptIsState() {
        refused(STATE, Edges::fresh, x -> x.restore(0));
        refused(STATE, Edges::fresh, x -> x.restore(1));
        refused(STATE, Edges::busy, x -> x.restore(1));
    }

    static void promise30_restore_theOtherImageDoesNotCount() {
        BubbleHouse x = three();
        x.image(1);
        due(x.restore(0), STATE);
        due(x.restore(1), 1);
        due(x.restore(0), STATE);
    }

    static void promise30_restore_aRefusedImageIsNotKept() {
        BubbleHouse x = three();
        due(x.image(2), OUTSIDE);
        due(x.image(-1), OUTSIDE);
        due(x.restore(0), STATE);
        due(x.restore(1), STATE);
    }

    static void promise30_restore_asOftenAsOneLikes() {
        BubbleHouse x = three();
        x.image(0);
        for (int i = 0; i < 3; i++) {
            x.leave(0);
            sit(x, "B2.");
            due(x.restore(0), 1);
            due(x.told(1), 7);
            due(x.told(21), 5);
            due(x.told(7), 0);
            due(x.told(3), 0);
        }
    }

    static void promise30_restore_thePadStays() {
        BubbleHouse x = write(three(), "A1");
        x.image(0);
        write(x, "B1C");
        due(x.restore(0), 1);
        due(x.told(0), 3);
        due(x.fault(), 3);
        x.wipe();
        x.restore(0);
        due(x.told(0), 0);
    }

    static void promise30_restore_aFullPadStaysFull() {
        BubbleHouse x = fullPad();
        due(x.restore(0), 1);
        due(x.told(0), 60);
        due(x.say('.'), FULL);
    }

    static void promise30_restore_allElseIsAsItWas() {
        BubbleHouse x = busy();
        x.image(1);
        x.set(0, 7);
        x.set(1, 8);
        x.hours(0, 9);
        x.hours(5, 10);
        x.forget();
        see(x, 1, 1, 1);
        sit(x, "A1A1B^..");
        x.dive(0, 0, 0);
        x.dive(5, 5, 5);
        x.leave(3);
        x.close();
        write(x, "B1~4.");
        due(x.restore(1), 1);
        int[] due = {5, 15, 3, 2, 20, 7, 2, 5, OUTSIDE, OUTSIDE, 2, 9, 7, 2, OUTSIDE, OUTSIDE, OUTSIDE, OUTSIDE, OUTSIDE,
            OUTSIDE, 32, 3, 0, 12, OUTSIDE, OUTSIDE, OUTSIDE, OUTSIDE, OUTSIDE, OUTSIDE, 5, 6, ALL_HOURS, ALL_HOURS,
            ALL_HOURS, 0};
        for (int what = 0; what < due.length; what++) {
            due(x.told(what), due[what]);
        }
        BubbleHouse y = busy();
        for (int i = -1; i <= 5; i++) {
            for (int what = 0; what <= 2; what++) {
                due(x.word(i, what), y.word(i, what));
            }
        }
        due(x.whose(), y.whose());
        due(x.restore(0), 1);
        due(x.told(1), 64);
    }

    static void promise30_restore_aFullBookAndMinute99() {
        BubbleHouse x = fullBook();
        pass(x, 99);
        x.image(0);
        x.close();
        due(x.told(7), 0);
        x.restore(0);
        due(x.told(7), 32);
        due(x.told(3), 99);
        due(x.word(0, 2), 32);
        x.dive(0, 0, 9);
        due(write(x, "A1").judge(1), 3);
        due(write(x, ".").judge(1), 4);
    }

    static void promise30_restore_eightSights() {
        BubbleHouse x = fullSights();
        x.image(1);
        x.forget();
        x.restore(1);
        due(x.told(6), 8);
        due(x.seen(1, 1, 1), FULL);
        due(x.whose(), 9);
    }

    static void promise30_restore_theEighthSightCounts() {
        BubbleHouse x = three();
        for (int i = 1; i <= 7; i++) {
            x.seen(3, 4, 2);
        }
        x.seen(3, 4, 7);
        x.image(0);
        x.forget();
        for (int i = 1; i <= 8; i++) {
            x.seen(3, 4, 2);
        }
        due(x.whose(), 3);
        x.restore(0);
        due(x.told(6), 8);
        due(x.whose(), 0);
    }

    static void promise30_restore_aFullBookOf32Words() {
        BubbleHouse x = bookOf32Words();
        x.image(0);
        x.close();
        x.restore(0);
        are32Words(x);
    }

    // ---- promise 31: told

    static void promise31_told_whatIsNotToldOfIsOutside() {
        for (int what : new int[] {-1, 8, 9, 17, 18, 19, 27, 28, 29, 36, 37, 38, 39, 40, 99, LEAST, MOST}) {
            refused(OUTSIDE, Edges::busy, x -> x.told(what));
            refused(OUTSIDE, () -> seven(1, 1), x -> x.told(what));
        }
    }

    static void promise31_told_whoIsNotThereIsOutside() {
        for (int m = 4; m <= 6; m++) {
            int who = m;
            refused(OUTSIDE, Edges::busy, x -> x.told(10 + who));
            refused(OUTSIDE, Edges::busy, x -> x.told(20 + who));
        }
        BubbleHouse x = three();
        x.leave(0);
        due(x.told(10), OUTSIDE);
        due(x.told(20), OUTSIDE);
    }

    static void promise31_told_whoHasRisenIsThere() {
        BubbleHouse x = busy();
        due(x.told(12), 7);
        due(x.told(22), 0);
        due(x.told(13), 2);
        due(x.told(23), 12);
    }

    static void promise31_told_members0And6AreTheEnds() {
        BubbleHouse x = uneven();
        for (int m = 0; m <= 6; m++) {
            due(x.told(10 + m), m);
            due(x.told(20 + m), 99 - 16 * m);
        }
    }

    static void promise31_told_laws0And5AreTheEnds() {
        BubbleHouse x = fresh();
        for (int law = 0; law <= 5; law++) {
            x.hours(law, law + 1);
        }
        for (int law = 0; law <= 5; law++) {
            due(x.told(30 + law), law + 1);
        }
    }

    static void promise31_told_emptyAndFull() {
        due(fresh().told(0), 0);
        due(fullPad().told(0), 60);
        due(fresh().told(1), 0);
        due(seven(0, 0).told(1), 127);
        due(fresh().told(2), 0);
        due(seven(0, 0).told(2), 127);
        due(fresh().told(3), 0);
        due(minute99().told(3), 99);
        due(fresh().told(6), 0);
        due(fullSights().told(6), 8);
        due(fresh().told(7), 0);
        due(fullBook().told(7), 32);
    }

    static void promise31_told_asksOnly() {
        for (int what = 0; what <= 36; what++) {
            int w = what;
            unchanged(Edges::busy, x -> x.told(w));
        }
    }
}
