/** The edges of promises 16 to 21 and of the Terms that show in them: words, laws, power. */
public final class PowerEdgesTest extends Edges {
    private static final int ALL_HOURS = 16777215;

    public static void main(String[] args) {
        run(PowerEdgesTest.class, 16, 21);
    }

    // ---- promise 16: speak

    private static void spoken(BubbleHouse x, int member, int place, int minute, int sizes, int least, int wait) {
        due(x.speak(member, place, minute, 0), sizes);
        due(x.speak(member, place, minute, 1), least);
        due(x.speak(member, place, minute, 2), wait);
    }

    private static void notSpoken(BubbleHouse x, int member, int place, int minute) {
        spoken(x, member, place, minute, 0, NONE, NONE);
    }

    /** At DEEP 1, where a bubble of each SIZE takes one minute. */
    private static BubbleHouse shallow(int place, int breath) {
        BubbleHouse x = one(0, place, breath);
        x.set(0, 1);
        return x;
    }

    static void promise16_speak_aMemberBelow0OrAbove6IsUnknown() {
        for (int m : NOT_MEMBERS) {
            refused(UNKNOWN, Edges::busy, x -> x.speak(m, 2, 20, 0));
        }
    }

    static void promise16_speak_whoIsNotThereIsUnknown() {
        refused(UNKNOWN, Edges::fresh, x -> x.speak(0, 0, 12, 0));
        refused(UNKNOWN, Edges::busy, x -> x.speak(6, 4, 20, 1));
    }

    static void promise16_speak_whoHasRisenIsUnknown() {
        refused(UNKNOWN, Edges::busy, x -> x.speak(2, 2, 20, 0));
        refused(UNKNOWN, Edges::busy, x -> x.speak(3, 2, 20, 2));
    }

    static void promise16_speak_aPlaceBelow0OrAbove9IsOutside() {
        for (int place : new int[] {-1, 10, LEAST, MOST}) {
            refused(OUTSIDE, Edges::busy, x -> x.speak(0, place, 20, 0));
        }
    }

    static void promise16_speak_aMinuteBelow0OrAbove999IsOutside() {
        for (int minute : new int[] {-1, 1000, LEAST, MOST}) {
            refused(OUTSIDE, Edges::busy, x -> x.speak(0, 2, minute, 0));
        }
    }

    static void promise16_speak_whatBelow0OrAbove2IsOutside() {
        for (int what : new int[] {-1, 3, LEAST, MOST}) {
            refused(OUTSIDE, Edges::busy, x -> x.speak(0, 2, 20, what));
        }
    }

    static void promise16_speak_unknownComesAheadOfOutside() {
        refused(UNKNOWN, Edges::busy, x -> x.speak(7, 10, 20, 0));
        refused(UNKNOWN, Edges::busy, x -> x.speak(4, 2, 1000, 0));
        refused(UNKNOWN, Edges::busy, x -> x.speak(3, 2, 20, 3));
    }

    static void promise16_speak_members0And6AreTheEnds() {
        BubbleHouse x = seven(4, 1);
        spoken(x, 0, 4, 12, 1, 1, 0);
        spoken(x, 6, 4, 12, 1, 1, 0);
    }

    static void promise16_speak_places0And9AreTheEnds() {
        spoken(one(0, 0, 1), 0, 0, 12, 1, 1, 0);
        notSpoken(one(0, 0, 1), 0, 9, 12);
        spoken(one(0, 9, 1), 0, 9, 12, 1, 1, 0);
        notSpoken(one(0, 9, 1), 0, 0, 12);
    }

    static void promise16_speak_minutes0And999AreTheEnds() {
        notSpoken(shallow(0, 99), 0, 0, 0);
        notSpoken(shallow(0, 99), 0, 0, 999);
    }

    static void promise16_speak_whoDoesNotWaitWaits0() {
        notSpoken(one(0, 0, 1), 0, 0, 11);
        spoken(one(0, 0, 1), 0, 0, 12, 1, 1, 0);
        notSpoken(shallow(0, 1), 0, 0, 0);
        spoken(shallow(0, 1), 0, 0, 1, 1, 1, 0);
    }

    static void promise16_speak_waitingIsCountedFromNow() {
        BubbleHouse x = shallow(0, 9);
        sit(x, "..");
        notSpoken(x, 0, 0, 1);
        notSpoken(x, 0, 0, 2);
        spoken(x, 0, 0, 3, 7, 1, 0);
        spoken(x, 0, 0, 4, 6, 1, 1);
        spoken(x, 0, 0, 9, 1, 1, 6);
        notSpoken(x, 0, 0, 10);
    }

    static void promise16_speak_eachMinuteOfWaitingIs1Breath() {
        spoken(shallow(0, 99), 0, 0, 91, 9, 1, 90);
        spoken(shallow(0, 99), 0, 0, 92, 8, 1, 91);
        spoken(shallow(0, 99), 0, 0, 98, 2, 1, 97);
        spoken(shallow(0, 99), 0, 0, 99, 1, 1, 98);
        notSpoken(shallow(0, 99), 0, 0, 100);
        notSpoken(shallow(0, 99), 0, 0, 101);
    }

    static void promise16_speak_breathMustJustDo() {
        BubbleHouse x = one(0, 2, 12);
        x.set(1, 1);
        spoken(x, 0, 5, 10, 2, 4, 7);
        x.dive(0, 2, 11);
        spoken(x, 0, 5, 10, 1, 4, 7);
        x.dive(0, 2, 10);
        notSpoken(x, 0, 5, 10);
    }

    static void promise16_speak_withoutBreathByNoSize() {
        for (int minute = 0; minute <= 13; minute++) {
            notSpoken(one(0, 0, 0), 0, 0, minute);
        }
    }

    static void promise16_speak_byAsManySizesAsThereIsBreathFor() {
        for (int breath = 1; breath <= 9; breath++) {
            spoken(shallow(0, breath), 0, 0, 1, breath, 1, 0);
        }
        spoken(shallow(0, 10), 0, 0, 1, 9, 1, 0);
    }

    static void promise16_speak_whatIsOverOfDeepBySizeCountsAsOneMinute() {
        spoken(one(0, 0, 9), 0, 0, 2, 4, 6, 0);
        spoken(one(0, 0, 8), 0, 0, 2, 3, 6, 0);
        spoken(one(0, 0, 5), 0, 0, 3, 2, 4, 0);
        notSpoken(one(0, 0, 5), 0, 0, 2);
    }

    static void promise16_speak_theLeastSizeAndHowLongHeWaitsForThat() {
        BubbleHouse x = one(0, 0, 99);
        spoken(x, 0, 0, 11, 8, 2, 5);
        spoken(x, 0, 0, 12, 9, 1, 0);
        spoken(x, 0, 0, 20, 9, 1, 8);
    }

    static void promise16_speak_behindPlace9ComesPlace0() {
        for (int place = 0; place <= 9; place++) {
            for (int tide = 0; tide <= 9; tide++) {
                BubbleHouse x = shallow(place, 1);
                x.set(1, tide);
                for (int at = 0; at <= 9; at++) {
                    due(x.speak(0, at, 1, 0), at == (place + tide) % 10 ? 1 : 0);
                }
            }
        }
    }

    static void promise16_speak_theRingIsGoneRoundManyTimes() {
        BubbleHouse x = one(0, 9, 1);
        x.set(0, 39);
        x.set(1, 9);
        spoken(x, 0, 0, 39, 1, 1, 0);
        notSpoken(x, 0, 9, 39);
    }

    static void promise16_speak_beyondMinute99() {
        BubbleHouse x = twoInMinute99();
        spoken(x, 0, 3, 111, 2, 1, 0);
        spoken(x, 0, 3, 112, 2, 1, 1);
        spoken(x, 0, 3, 119, 1, 1, 8);
        notSpoken(x, 0, 3, 120);
        x.dive(0, 3, 99);
        x.set(0, 40);
        spoken(x, 0, 3, 237, 1, 1, 98);
        notSpoken(x, 0, 3, 238);
    }

    static void promise16_speak_aroundMinute99() {
        BubbleHouse x = minute98();
        x.set(0, 1);
        spoken(x, 0, 3, 99, 9, 1, 0);
        spoken(x, 0, 3, 100, 8, 1, 1);
        spoken(x, 0, 3, 101, 7, 1, 2);
    }

    static void promise16_speak_whateverTheBookHas() {
        BubbleHouse x = fullBook();
        due(x.told(7), 32);
        spoken(x, 0, 0, 12, 9, 1, 0);
    }

    static void promise16_speak_theWordComesUpThereAndThen() {
        for (int minute = 0; minute <= 30; minute++) {
            for (int place = 0; place <= 9; place++) {
                BubbleHouse x = one(0, 8, 13);
                x.set(1, 3);
                int size = x.speak(0, place, minute, 1);
                int wait = x.speak(0, place, minute, 2);
                due(wait == NONE ? 1 : 0, size == NONE ? 1 : 0);
                if (size != NONE) {
                    sit(x, ".".repeat(wait) + "A" + size);
                    due(x.word(0, 0), minute);
                    due(x.word(0, 1), place);
                    due(x.word(0, 2), size);
                }
            }
        }
    }

    static void promise16_speak_asksOnly() {
        for (int what = 0; what <= 2; what++) {
            int w = what;
            unchanged(Edges::busy, x -> x.speak(0, 2, 42, w));
        }
    }

    // ---- promise 17: laws

    private static void lawful(int costs, int worths, int breath, int most, int which, int sets) {
        due(fresh().laws(costs, worths, breath, 0), most);
        due(fresh().laws(costs, worths, breath, 1), which);
        due(fresh().laws(costs, worths, breath, 2), sets);
    }

    static void promise17_laws_costsBelow0OrAbove999999AreOutside() {
        for (int costs : new int[] {-1, 1000000, LEAST, MOST}) {
            refused(OUTSIDE, Edges::busy, x -> x.laws(costs, 1, 1, 0));
        }
    }

    static void promise17_laws_worthsBelow0OrAbove999999AreOutside() {
        for (int worths : new int[] {-1, 1000000, LEAST, MOST}) {
            refused(OUTSIDE, Edges::busy, x -> x.laws(1, worths, 1, 0));
        }
    }

    static void promise17_laws_breathBelow0OrAbove54IsOutside() {
        for (int breath : new int[] {-1, 55, LEAST, MOST}) {
            refused(OUTSIDE, Edges::busy, x -> x.laws(1, 1, breath, 0));
        }
    }

    static void promise17_laws_whatBelow0OrAbove2IsOutside() {
        for (int what : new int[] {-1, 3, LEAST, MOST}) {
            refused(OUTSIDE, Edges::busy, x -> x.laws(1, 1, 1, what));
        }
    }

    static void promise17_laws_numbers0And999999AreTheEnds() {
        lawful(0, 0, 9, 0, 0, 0);
        lawful(0, 999999, 9, 0, 0, 0);
        lawful(999999, 0, 9, 0, 0, 6);
        lawful(999999, 999999, 9, 9, 1, 6);
    }

    static void promise17_laws_breath0And54AreTheEnds() {
        lawful(999999, 999999, 54, 54, 63, 1);
        lawful(999998, 999999, 53, 54, 63, 1);
        lawful(999999, 999999, 53, 45, 31, 0);
        lawful(111111, 999999, 0, 0, 0, 1);
    }

    static void promise17_laws_noLawsAtAllCostBreath0() {
        lawful(0, 0, 0, 0, 0, 1);
        lawful(0, 999999, 0, 0, 0, 1);
        lawful(101010, 999999, 0, 0, 0, 1);
        lawful(0, 999999, 1, 0, 0, 0);
    }

    static void promise17_laws_aCostOf0IsNoLaw() {
        lawful(10, 999, 9, 9, 2, 0);
        lawful(10, 999, 1, 9, 2, 1);
        lawful(100001, 999999, 54, 18, 33, 0);
        lawful(99990, 999999, 54, 36, 30, 0);
    }

    static void promise17_laws_breathMustJustDo() {
        lawful(5, 7, 4, 0, 0, 0);
        lawful(5, 7, 5, 7, 1, 1);
        lawful(5, 7, 6, 7, 1, 0);
        lawful(35, 21, 7, 2, 2, 0);
        lawful(35, 21, 8, 3, 3, 1);
    }

    static void promise17_laws_bit0IsTheLastDigitBit5TheFirst() {
        for (int law = 0, number = 1; law <= 5; law++, number *= 10) {
            lawful(number, number, 1, 1, 1 << law, 1);
            lawful(111111, number, 1, 1, 1 << law, 6);
        }
    }

    static void promise17_laws_ofAsMuchTheLeastBits() {
        lawful(11, 11, 1, 1, 1, 2);
        lawful(110000, 110000, 1, 1, 16, 2);
        lawful(211, 211, 2, 2, 3, 2);
        lawful(111111, 111111, 5, 5, 31, 6);
    }

    static void promise17_laws_whatIsWorthNothingIsLeftOut() {
        lawful(11, 10, 2, 1, 2, 1);
        lawful(11, 1, 2, 1, 1, 1);
        lawful(111111, 0, 6, 0, 0, 1);
    }

    static void promise17_laws_setsThatCostJustThatBreath() {
        int[] due = {1, 6, 15, 20, 15, 6, 1, 0};
        for (int breath = 0; breath <= 7; breath++) {
            due(fresh().laws(111111, 0, breath, 2), due[breath]);
        }
        due(fresh().laws(654321, 0, 20, 2), 1);
        due(fresh().laws(654321, 0, 21, 2), 1);
        due(fresh().laws(654321, 0, 22, 2), 0);
    }

    static void promise17_laws_asksOnly() {
        unchanged(Edges::busy, x -> x.laws(321, 956, 3, 0) + x.laws(321, 956, 3, 2));
    }

    // ---- promise 18: power

    private static void powers(BubbleHouse x, int... due) {
        for (int m = 0; m < due.length; m++) {
            due(x.power(m), due[m]);
        }
    }

    private static BubbleHouse breaths(int... breaths) {
        BubbleHouse x = fresh();
        for (int m = 0; m < breaths.length; m++) {
            x.dive(m, m, breaths[m]);
        }
        return x;
    }

    static void promise18_power_aMemberBelow0OrAbove6IsUnknown() {
        for (int m : NOT_MEMBERS) {
            refused(UNKNOWN, Edges::busy, x -> x.power(m));
        }
    }

    static void promise18_power_whoIsNotThereIsUnknown() {
        refused(UNKNOWN, Edges::fresh, x -> x.power(0));
        refused(UNKNOWN, Edges::busy, x -> x.power(4));
    }

    static void promise18_power_whoHasRisenIsUnknown() {
        refused(UNKNOWN, Edges::busy, x -> x.power(2));
        refused(UNKNOWN, Edges::busy, x -> x.power(3));
    }

    static void promise18_power_halfIsNotMoreThanHalf() {
        powers(breaths(5, 5), 1, 1);
        powers(breaths(5, 4), 2, 0);
        powers(breaths(4, 2, 2), 3, 1, 1);
        powers(breaths(5, 2, 2), 4, 0, 0);
    }

    static void promise18_power_halfOfAnOddSum() {
        powers(breaths(2, 2, 1), 2, 2, 2);
        powers(breaths(3, 1, 1), 4, 0, 0);
        powers(breaths(99, 98), 2, 0);
    }

    static void promise18_power_alone() {
        powers(breaths(1), 1);
        powers(breaths(99), 1);
        powers(breaths(0), 0);
    }

    static void promise18_power_withoutBreathNobodyHasAny() {
        powers(breaths(0, 0, 0), 0, 0, 0);
        powers(breaths(3, 0), 2, 0);
    }

    static void promise18_power_ofAllSeven() {
        powers(seven(0, 99), 20, 20, 20, 20, 20, 20, 20);
        powers(breaths(99, 0, 0, 0, 0, 0, 0), 64, 0, 0, 0, 0, 0, 0);
        powers(breaths(0, 0, 0, 0, 0, 0, 1), 0, 0, 0, 0, 0, 0, 64);
        powers(breaths(6, 1, 1, 1, 1, 1, 1), 63, 1, 1, 1, 1, 1, 1);
    }

    static void promise18_power_whoHasRisenDoesNotCount() {
        BubbleHouse x = breaths(3, 2, 9);
        powers(x, 0, 0, 4);
        sit(x, "C^");
        powers(x, 2, 0, UNKNOWN);
    }

    static void promise18_power_whoHasLeftDoesNotCount() {
        BubbleHouse x = breaths(3, 2, 9);
        x.leave(2);
        powers(x, 2, 0, UNKNOWN);
    }

    static void promise18_power_asksOnly() {
        unchanged(Edges::busy, x -> x.power(0));
    }

    // ---- promise 19: held

    private static void ankles(BubbleHouse x, int set, int few, int which) {
        due(x.held(set, 0), few);
        due(x.held(set, 1), which);
    }

    static void promise19_held_aSetBelow0OrAbove127IsUnknown() {
        for (int set : new int[] {-1, 128, 129, 256, -128, LEAST, MOST}) {
            refused(UNKNOWN, Edges::busy, x -> x.held(set, 0));
            refused(UNKNOWN, () -> seven(0, 5), x -> x.held(set, 1));
        }
    }

    static void promise19_held_oneWhoIsNotBelowIsUnknown() {
        for (int set : new int[] {4, 8, 16, 64, 5, 9, 17, 65, 7, 127}) {
            refused(UNKNOWN, Edges::busy, x -> x.held(set, 0));
        }
    }

    static void promise19_held_whatBelow0OrAbove1IsOutside() {
        for (int what : new int[] {-1, 2, LEAST, MOST}) {
            refused(OUTSIDE, Edges::busy, x -> x.held(3, what));
        }
    }

    static void promise19_held_unknownComesAheadOfOutside() {
        refused(UNKNOWN, Edges::busy, x -> x.held(128, 2));
        refused(UNKNOWN, Edges::busy, x -> x.held(-1, -1));
        refused(UNKNOWN, Edges::busy, x -> x.held(4, 2));
    }

    static void promise19_held_sets0And127AreTheEnds() {
        ankles(seven(0, 1), 0, 0, 0);
        ankles(seven(0, 1), 127, 4, 15);
        ankles(fresh(), 0, 0, 0);
    }

    static void promise19_held_whatDoesNotPassNeedsNobody() {
        ankles(breaths(5, 5), 1, 0, 0);
        ankles(breaths(5, 5), 2, 0, 0);
        ankles(breaths(4, 5), 1, 0, 0);
        ankles(breaths(0, 0), 3, 0, 0);
    }

    static void promise19_held_halfDoesNotPass() {
        ankles(breaths(5, 5), 3, 1, 1);
        ankles(breaths(5, 4), 3, 1, 1);
        ankles(breaths(4, 5), 3, 1, 2);
        ankles(breaths(3, 2, 5), 7, 1, 4);
        ankles(breaths(3, 3, 5), 7, 2, 3);
    }

    static void promise19_held_whoIsHeldStillCountsInAll() {
        ankles(breaths(2, 2, 2), 7, 2, 3);
        ankles(breaths(6, 5), 1, 1, 1);
    }

    static void promise19_held_theFewestComeAheadOfTheLeastBits() {
        ankles(breaths(1, 1, 4), 7, 1, 4);
        ankles(breaths(2, 2, 2, 6), 15, 1, 8);
        ankles(breaths(2, 2, 2, 5), 15, 2, 9);
        ankles(breaths(1, 1, 1, 1, 1, 1, 99), 127, 1, 64);
    }

    static void promise19_held_ofAsFewTheLeastBits() {
        ankles(breaths(0, 3, 3), 7, 1, 2);
        ankles(breaths(0, 0, 0, 1, 1), 24, 1, 8);
        ankles(breaths(1, 2, 2, 2, 1), 31, 2, 6);
    }

    static void promise19_held_theRestOfTheSetAloneIsForIt() {
        ankles(breaths(3, 3, 3), 3, 1, 1);
        ankles(breaths(3, 3, 3), 5, 1, 1);
        ankles(breaths(3, 3, 3), 6, 1, 2);
    }

    static void promise19_held_asksOnly() {
        unchanged(Edges::busy, x -> x.held(3, 0) + x.held(3, 1));
    }

    // ---- promise 20: hours

    static void promise20_hours_aLawBelow0OrAbove5IsUnknown() {
        for (int law : new int[] {-1, 6, 7, 32, -32, LEAST, MOST}) {
            refused(UNKNOWN, Edges::busy, x -> x.hours(law, 9));
        }
    }

    static void promise20_hours_bitsBelow0OrAbove23AreOutside() {
        for (int bits : new int[] {-1, 1 << 24, (1 << 24) + 1, LEAST, MOST}) {
            refused(OUTSIDE, Edges::busy, x -> x.hours(0, bits));
        }
    }

    static void promise20_hours_unknownComesAheadOfOutside() {
        refused(UNKNOWN, Edges::busy, x -> x.hours(6, -1));
        refused(UNKNOWN, Edges::busy, x -> x.hours(-1, 1 << 24));
    }

    static void promise20_hours_noneAndAllAreTheEnds() {
        BubbleHouse x = fresh();
        due(x.hours(0, 0), ALL_HOURS);
        due(x.told(30), 0);
        due(x.hours(0, ALL_HOURS), 0);
        due(x.told(30), ALL_HOURS);
        due(x.hours(0, 1 << 23), ALL_HOURS);
        due(x.hours(0, 1), 1 << 23);
    }

    static void promise20_hours_laws0And5AreTheEnds() {
        BubbleHouse x = fresh();
        due(x.hours(0, 3), ALL_HOURS);
        due(x.hours(5, 4), ALL_HOURS);
        due(x.hours(0, 5), 3);
        due(x.hours(5, 6), 4);
        due(x.told(31), ALL_HOURS);
        due(x.told(34), ALL_HOURS);
    }

    // ---- promise 21: orders

    static void promise21_orders_nBelow1OrAbove6IsOutside() {
        for (int n : new int[] {0, 7, -1, 32, 33, LEAST, MOST}) {
            refused(OUTSIDE, Edges::busy, x -> x.orders(n, 0));
        }
    }

    static void promise21_orders_anHourBelow0OrAbove23IsOutside() {
        for (int hour : new int[] {-1, 24, LEAST, MOST}) {
            refused(OUTSIDE, Edges::busy, x -> x.orders(2, hour));
        }
    }

    static void promise21_orders_n1And6AreTheEnds() {
        int[] due = {1, 2, 6, 24, 120, 720};
        for (int n = 1; n <= 6; n++) {
            due(fresh().orders(n, 0), due[n - 1]);
            due(fresh().orders(n, 23), due[n - 1]);
        }
    }

    static void promise21_orders_behindHour23ComesHour0() {
        for (int hour = 0; hour <= 23; hour++) {
            BubbleHouse x = fresh();
            for (int law = 0; law <= 5; law++) {
                x.hours(law, 1 << (hour + law) % 24);
            }
            for (int from = 0; from <= 23; from++) {
                due(x.orders(6, from), from == hour ? 1 : 0);
            }
        }
    }

    static void promise21_orders_justBehindHour23() {
        BubbleHouse x = fresh();
        x.hours(0, 1);
        x.hours(1, 1 << 23);
        due(x.orders(2, 23), 1);
        due(x.orders(2, 22), 0);
        due(x.orders(2, 0), 0);
        x.hours(0, 1 << 23);
        x.hours(1, 1);
        due(x.orders(2, 23), 1);
    }

    static void promise21_orders_aLawWithoutHoursNeverPasses() {
        BubbleHouse x = fresh();
        x.hours(2, 0);
        due(x.orders(2, 5), 2);
        due(x.orders(3, 5), 0);
        due(x.orders(6, 5), 0);
        x.hours(0, 0);
        due(x.orders(1, 5), 0);
    }

    static void promise21_orders_otherLawsDoNotCount() {
        BubbleHouse x = fresh();
        x.hours(5, 0);
        due(x.orders(5, 0), 120);
        due(x.orders(6, 0), 0);
    }

    static void promise21_orders_justTheHoursFromTheFirstToTheLast() {
        BubbleHouse x = fresh();
        for (int law = 0; law <= 2; law++) {
            x.hours(law, 1 << 5 | 1 << 6 | 1 << 7);
        }
        due(x.orders(3, 4), 0);
        due(x.orders(3, 5), 6);
        due(x.orders(3, 6), 0);
        due(x.orders(2, 6), 2);
        due(x.orders(2, 7), 0);
        due(x.orders(1, 7), 1);
        due(x.orders(1, 8), 0);
    }

    static void promise21_orders_asksOnly() {
        unchanged(Edges::busy, x -> x.orders(6, 20) + x.orders(1, 0));
    }
}
