/** The edges of promises 1 to 8 and of the Terms that show in them: members, the lagoon, sittings. */
public final class LagoonEdgesTest extends Edges {
    private static final String FIRST_SIGNS = "ABCDEFG~.";
    private static final String SIGNS_AFTER_A_MEMBER = "123456789^";
    private static final String SIGNS_AFTER_THE_TIDE = "0123456789";

    public static void main(String[] args) {
        run(LagoonEdgesTest.class, 1, 8);
    }

    // ---- promise 1: a new object

    static void promise1_newObject_nobodyIsThere() {
        BubbleHouse x = fresh();
        due(x.told(1), 0);
        due(x.told(2), 0);
        for (int m = 0; m <= 6; m++) {
            due(x.told(10 + m), OUTSIDE);
            due(x.told(20 + m), OUTSIDE);
            due(x.behind(m, 0), UNKNOWN);
            due(x.power(m), UNKNOWN);
            due(x.leave(m), UNKNOWN);
        }
        due(x.falls(), 0);
        due(x.whose(), 0);
        due(x.alike(-1), 0);
    }

    static void promise1_newObject_deepIs12() {
        BubbleHouse x = one(0, 0, 9);
        due(x.told(4), 12);
        due(sit(x, "A1").word(0, 0), 12);
        due(x.set(0, 12), 12);
    }

    static void promise1_newObject_theTideIs0() {
        BubbleHouse x = one(0, 9, 9);
        due(x.told(5), 0);
        due(sit(x, "A1").word(0, 1), 9);
        due(x.then(2), 0);
        due(x.set(1, 0), 0);
    }

    static void promise1_newObject_itIsMinute0() {
        BubbleHouse x = one(0, 0, 12);
        due(x.told(3), 0);
        due(x.then(1), 0);
        due(sit(x, "A3").word(0, 0), 4);
    }

    static void promise1_newObject_thePadIsEmpty() {
        BubbleHouse x = fresh();
        due(x.told(0), 0);
        due(x.fault(), NONE);
        due(x.judge(0), NONE);
        due(x.done(), 0);
        due(x.wipe(), 0);
        due(x.say('.'), 1);
    }

    static void promise1_newObject_theBookIsEmpty() {
        BubbleHouse x = fresh();
        due(x.told(7), 0);
        due(x.then(3), 0);
        due(x.word(-1, 0), 0);
        due(x.word(0, 0), UNKNOWN);
        due(x.votes(0, 999, 0), 0);
        due(x.votes(0, 999, 1), 0);
        due(x.close(), 0);
    }

    static void promise1_newObject_thereAreNoSights() {
        BubbleHouse x = fresh();
        due(x.told(6), 0);
        due(x.forget(), 0);
        due(x.seen(1, 0, 0), 1);
    }

    static void promise1_newObject_allLawsHaveAllHours() {
        BubbleHouse x = fresh();
        for (int law = 0; law <= 5; law++) {
            due(x.told(30 + law), 16777215);
        }
        for (int hour = 0; hour <= 23; hour++) {
            due(x.orders(6, hour), 720);
        }
    }

    static void promise1_newObject_noImageIsKept() {
        due(fresh().restore(0), STATE);
        due(fresh().restore(1), STATE);
    }

    static void promise1_newObject_isApartFromAllOthers() {
        BubbleHouse x = busy();
        BubbleHouse y = fresh();
        for (int what = 0; what <= 7; what++) {
            due(y.told(what), what == 4 ? 12 : 0);
        }
        due(y.restore(0), STATE);
        due(y.told(30), 16777215);
        due(x.told(1), 15);
    }

    // ---- promise 2: dive

    static void promise2_dive_aMemberBelow0OrAbove6IsUnknown() {
        for (int m : NOT_MEMBERS) {
            refused(UNKNOWN, Edges::busy, x -> x.dive(m, 3, 3));
        }
    }

    static void promise2_dive_members0And6AreTheEnds() {
        BubbleHouse x = fresh();
        due(x.dive(0, 3, 4), 1);
        due(x.told(1), 1);
        due(x.dive(6, 5, 6), 2);
        due(x.told(1), 65);
        due(x.told(10), 3);
        due(x.told(20), 4);
        due(x.told(16), 5);
        due(x.told(26), 6);
    }

    static void promise2_dive_aPlaceBelow0OrAbove9IsOutside() {
        for (int place : new int[] {-1, 10, LEAST, MOST}) {
            refused(OUTSIDE, Edges::busy, x -> x.dive(4, place, 3));
            refused(OUTSIDE, Edges::busy, x -> x.dive(0, place, 3));
        }
    }

    static void promise2_dive_places0And9AreTheEnds() {
        due(one(0, 0, 5).told(10), 0);
        due(one(0, 9, 5).told(10), 9);
        due(fresh().dive(0, 0, 5), 1);
        due(fresh().dive(0, 9, 5), 1);
    }

    static void promise2_dive_breathBelow0OrAbove99IsOutside() {
        for (int breath : new int[] {-1, 100, LEAST, MOST}) {
            refused(OUTSIDE, Edges::busy, x -> x.dive(4, 3, breath));
            refused(OUTSIDE, Edges::busy, x -> x.dive(0, 3, breath));
        }
    }

    static void promise2_dive_breath0And99AreTheEnds() {
        due(one(0, 5, 0).told(20), 0);
        due(one(0, 5, 99).told(20), 99);
        due(fresh().dive(0, 5, 0), 1);
        due(fresh().dive(0, 5, 99), 1);
    }

    static void promise2_dive_unknownComesAheadOfOutside() {
        refused(UNKNOWN, Edges::busy, x -> x.dive(7, 10, 3));
        refused(UNKNOWN, Edges::busy, x -> x.dive(-1, 3, 100));
        refused(UNKNOWN, Edges::busy, x -> x.dive(7, -1, -1));
    }

    static void promise2_dive_withoutBreathHeIsBelow() {
        BubbleHouse x = one(4, 0, 0);
        due(x.told(2), 16);
        due(x.behind(4, 1), 1);
    }

    static void promise2_dive_anewTakesTheNewPlaceAndBreath() {
        BubbleHouse x = three();
        due(x.dive(0, 9, 99), 3);
        due(x.told(10), 9);
        due(x.told(20), 99);
        due(x.dive(0, 0, 0), 3);
        due(x.told(10), 0);
        due(x.told(20), 0);
        due(x.told(1), 7);
    }

    static void promise2_dive_anewBringsBackWhoHadRisen() {
        BubbleHouse x = sit(three(), "A^");
        due(x.told(2), 6);
        due(x.dive(0, 2, 9), 3);
        due(x.told(2), 7);
    }

    static void promise2_dive_countsWhoIsBelowNotWhoIsThere() {
        BubbleHouse x = sit(three(), "A^.");
        due(x.told(1), 7);
        due(x.told(2), 2);
        due(x.dive(3, 0, 0), 2);
    }

    static void promise2_dive_allSevenFit() {
        BubbleHouse x = fresh();
        for (int m = 0; m <= 6; m++) {
            due(x.dive(m, 0, 1), m + 1);
        }
        due(x.told(1), 127);
        due(x.told(2), 127);
    }

    // ---- promise 3: leave

    static void promise3_leave_aMemberBelow0OrAbove6IsUnknown() {
        for (int m : NOT_MEMBERS) {
            refused(UNKNOWN, Edges::busy, x -> x.leave(m));
        }
    }

    static void promise3_leave_whoWasNotThereIsUnknown() {
        refused(UNKNOWN, Edges::busy, x -> x.leave(4));
        refused(UNKNOWN, Edges::fresh, x -> x.leave(0));
    }

    static void promise3_leave_whoHasLeftIsUnknown() {
        Start left = () -> {
            BubbleHouse x = busy();
            x.leave(0);
            return x;
        };
        refused(UNKNOWN, left, x -> x.leave(0));
    }

    static void promise3_leave_members0And6AreTheEnds() {
        BubbleHouse x = seven(0, 5);
        due(x.leave(0), 6);
        due(x.told(1), 126);
        due(x.leave(6), 5);
        due(x.told(1), 62);
    }

    static void promise3_leave_countsWhoIsThereNotWhoIsBelow() {
        BubbleHouse x = sit(three(), "A^");
        due(x.leave(1), 2);
    }

    static void promise3_leave_whoHasRisenIsThereAndCanLeave() {
        BubbleHouse x = sit(three(), "A^");
        due(x.leave(0), 2);
        due(x.told(1), 6);
    }

    static void promise3_leave_whoHasLeftIsNotBelow() {
        BubbleHouse x = three();
        x.leave(0);
        due(x.told(2), 6);
        due(x.told(10), OUTSIDE);
        due(x.told(20), OUTSIDE);
    }

    static void promise3_leave_theLastLeavesNobody() {
        BubbleHouse x = one(3, 3, 3);
        due(x.leave(3), 0);
        due(x.told(1), 0);
        due(x.told(2), 0);
    }

    static void promise3_leave_hisBubblesStay() {
        BubbleHouse x = sit(three(), "A2");
        x.leave(0);
        due(x.told(7), 1);
        due(x.word(0, 2), 2);
    }

    // ---- promise 4: set

    static void promise4_set_whichBelow0OrAbove1IsOutside() {
        for (int which : new int[] {-1, 2, LEAST, MOST}) {
            refused(OUTSIDE, Edges::busy, x -> x.set(which, 5));
        }
    }

    static void promise4_set_deepBelow1OrAbove40IsOutside() {
        for (int v : new int[] {0, 41, -1, LEAST, MOST}) {
            refused(OUTSIDE, Edges::busy, x -> x.set(0, v));
        }
    }

    static void promise4_set_deep1And40AreTheEnds() {
        BubbleHouse x = fresh();
        due(x.set(0, 1), 12);
        due(x.told(4), 1);
        due(x.set(0, 40), 1);
        due(x.told(4), 40);
        due(x.set(0, 1), 40);
    }

    static void promise4_set_aTideBelow0OrAbove9IsOutside() {
        for (int v : new int[] {-1, 10, LEAST, MOST}) {
            refused(OUTSIDE, Edges::busy, x -> x.set(1, v));
        }
    }

    static void promise4_set_tides0And9AreTheEnds() {
        BubbleHouse x = fresh();
        due(x.set(1, 9), 0);
        due(x.told(5), 9);
        due(x.set(1, 0), 9);
        due(x.told(5), 0);
    }

    static void promise4_set_eachHasItsOwnEnds() {
        BubbleHouse x = fresh();
        due(x.set(0, 10), 12);
        due(x.set(1, 0), 0);
        due(x.told(4), 10);
        due(x.told(5), 0);
    }

    // ---- promise 5: close

    static void promise5_close_anEmptyBookAnswers0() {
        BubbleHouse x = three();
        due(x.close(), 0);
        due(x.told(7), 0);
        due(x.told(3), 0);
    }

    static void promise5_close_anEmptyBookStillComesBackToMinute0() {
        BubbleHouse x = sit(three(), "..");
        due(x.told(3), 2);
        due(x.close(), 0);
        due(x.told(3), 0);
    }

    static void promise5_close_aFullBookHasRoomAgain() {
        BubbleHouse x = fullBook();
        due(x.close(), 32);
        due(x.told(7), 0);
        due(x.word(-1, 0), 0);
        due(x.word(0, 0), UNKNOWN);
        due(fill(x, 32).told(7), 32);
    }

    static void promise5_close_countsBubblesNotWords() {
        BubbleHouse x = sit(three(), "A1A1B1");
        due(x.word(-1, 0), 1);
        due(x.close(), 3);
    }

    static void promise5_close_minutesGoOnBehindMinute99() {
        BubbleHouse x = minute99();
        due(x.close(), 0);
        due(x.told(3), 0);
        due(pass(x, 99).told(3), 99);
    }

    static void promise5_close_twiceAnswers0() {
        BubbleHouse x = sit(three(), "A1");
        due(x.close(), 1);
        due(x.close(), 0);
    }

    static void promise5_close_allElseStays() {
        BubbleHouse x = busy();
        due(x.close(), 5);
        due(x.told(0), 5);
        due(x.told(1), 15);
        due(x.told(2), 3);
        due(x.told(4), 20);
        due(x.told(5), 7);
        due(x.told(6), 2);
        due(x.told(20), 32);
        due(x.told(21), 3);
        due(x.told(30), 5);
        due(x.restore(0), 1);
    }

    // ---- promise 6: say

    static void promise6_say_aSignBelow33OrAbove126IsOutside() {
        for (int sign : new int[] {32, 127, 31, 128, 0, -1, -46, 256 + '.', 65536 + '.', LEAST, MOST}) {
            refused(OUTSIDE, Edges::busy, x -> x.say(sign));
        }
    }

    static void promise6_say_signs33And126AreTheEnds() {
        BubbleHouse x = fresh();
        due(x.say(33), 1);
        due(x.say(126), 2);
        due(x.told(0), 2);
    }

    static void promise6_say_everySignFrom33To126CanBeSaid() {
        for (int sign = 33; sign <= 126; sign++) {
            due(fresh().say(sign), 1);
        }
    }

    static void promise6_say_sixtySignsFit() {
        BubbleHouse x = fresh();
        for (int i = 1; i <= 60; i++) {
            due(x.say('.'), i);
        }
        due(x.told(0), 60);
    }

    static void promise6_say_the61stIsFull() {
        refused(FULL, Edges::fullPad, x -> x.say('.'));
        refused(FULL, Edges::fullPad, x -> x.say(33));
        refused(FULL, Edges::fullPad, x -> x.say(126));
    }

    static void promise6_say_outsideComesAheadOfFull() {
        refused(OUTSIDE, Edges::fullPad, x -> x.say(32));
        refused(OUTSIDE, Edges::fullPad, x -> x.say(127));
    }

    static void promise6_say_aFullPadIsFullUntilItIsEmpty() {
        BubbleHouse x = fullPad();
        due(x.say('.'), FULL);
        due(x.done(), 30);
        due(x.say('.'), 1);
        write(x, "~1".repeat(30));
        due(x.say('.'), FULL);
        due(x.wipe(), 60);
        due(x.say('.'), 1);
    }

    // ---- promise 7: wipe

    static void promise7_wipe_anEmptyPadAnswers0() {
        BubbleHouse x = fresh();
        due(x.wipe(), 0);
        due(x.told(0), 0);
        unchanged(Edges::fresh, y -> y.wipe());
    }

    static void promise7_wipe_oneSignGoes() {
        BubbleHouse x = write(fresh(), "A");
        due(x.wipe(), 1);
        due(x.told(0), 0);
        due(x.fault(), NONE);
    }

    static void promise7_wipe_aFullPadGoes() {
        BubbleHouse x = fullPad();
        due(x.wipe(), 60);
        due(x.told(0), 0);
        due(x.wipe(), 0);
        due(x.done(), 0);
    }

    static void promise7_wipe_whatWasSaidDoesNotCount() {
        BubbleHouse x = write(three(), "A9A9x");
        x.wipe();
        x.say('A');
        due(x.fault(), 1);
        x.say('1');
        due(x.fault(), NONE);
        due(x.done(), 1);
        due(x.told(20), 8);
    }

    static void promise7_wipe_nothingButThePadGoes() {
        BubbleHouse x = busy();
        due(x.wipe(), 5);
        due(x.told(1), 15);
        due(x.told(2), 3);
        due(x.told(3), 2);
        due(x.told(6), 2);
        due(x.told(7), 5);
        due(x.restore(0), 1);
    }

    // ---- promise 8: fault

    static void promise8_fault_anEmptyPadHasNone() {
        due(fresh().fault(), NONE);
        due(write(three(), "A").wipe(), 1);
        unchanged(Edges::busy, x -> x.fault());
    }

    static void promise8_fault_theFirstSignIsAMemberTheTideOrAMinute() {
        for (char sign = 33; sign <= 126; sign++) {
            boolean ends = sign == '.';
            boolean stands = FIRST_SIGNS.indexOf(sign) >= 0;
            due(write(fresh(), "" + sign).fault(), ends ? NONE : stands ? 1 : 0);
        }
    }

    static void promise8_fault_behindAMemberComesASizeOrARise() {
        for (char member = 'A'; member <= 'G'; member++) {
            BubbleHouse x = fresh();
            for (char sign = 33; sign <= 126; sign++) {
                boolean stands = SIGNS_AFTER_A_MEMBER.indexOf(sign) >= 0;
                due(write(x, "" + member + sign).fault(), stands ? NONE : 1);
            }
        }
    }

    static void promise8_fault_sizes1And9AreTheEnds() {
        due(write(fresh(), "A0").fault(), 1);
        due(write(fresh(), "A1").fault(), NONE);
        due(write(fresh(), "A9").fault(), NONE);
        due(write(fresh(), "A:").fault(), 1);
    }

    static void promise8_fault_membersAAndGAreTheEnds() {
        due(write(fresh(), "@1").fault(), 0);
        due(write(fresh(), "A1").fault(), NONE);
        due(write(fresh(), "G1").fault(), NONE);
        due(write(fresh(), "H1").fault(), 0);
        due(write(fresh(), "a1").fault(), 0);
    }

    static void promise8_fault_behindTheTideComesADigit() {
        BubbleHouse x = fresh();
        for (char sign = 33; sign <= 126; sign++) {
            boolean stands = SIGNS_AFTER_THE_TIDE.indexOf(sign) >= 0;
            due(write(x, "~" + sign).fault(), stands ? NONE : 1);
        }
    }

    static void promise8_fault_tides0And9AreTheEnds() {
        due(write(fresh(), "~/").fault(), 1);
        due(write(fresh(), "~0").fault(), NONE);
        due(write(fresh(), "~9").fault(), NONE);
        due(write(fresh(), "~:").fault(), 1);
    }

    static void promise8_fault_behindEachActAnotherOneBegins() {
        for (String act : new String[] {"A1", "G9", "C^", "~0", "~9", "."}) {
            BubbleHouse x = fresh();
            for (char sign = 33; sign <= 126; sign++) {
                boolean ends = sign == '.';
                boolean stands = FIRST_SIGNS.indexOf(sign) >= 0;
                int at = act.length();
                due(write(x, act + sign).fault(), ends ? NONE : stands ? at + 1 : at);
            }
        }
    }

    static void promise8_fault_ifMoreMustComeItIsTheNumberOfSigns() {
        due(write(fresh(), "A").fault(), 1);
        due(write(fresh(), "~").fault(), 1);
        due(write(fresh(), "..G").fault(), 3);
        due(write(fresh(), "A1B^~").fault(), 5);
    }

    static void promise8_fault_ofAFullPad() {
        String acts = ".".repeat(58);
        due(write(fresh(), acts + "..").fault(), NONE);
        due(write(fresh(), acts + "A1").fault(), NONE);
        due(write(fresh(), acts + ".A").fault(), 60);
        due(write(fresh(), acts + ".~").fault(), 60);
        due(write(fresh(), acts + ".1").fault(), 59);
        due(write(fresh(), acts + "A0").fault(), 59);
        due(write(fresh(), acts + "0.").fault(), 58);
        due(write(fresh(), "!" + acts + ".").fault(), 0);
    }

    static void promise8_fault_theFirstOfSeveralCounts() {
        due(write(fresh(), "A0B0").fault(), 1);
        due(write(fresh(), ".xA0").fault(), 1);
        due(write(fresh(), "A1~xG").fault(), 3);
        due(write(fresh(), "xA").fault(), 0);
    }

    static void promise8_fault_whatCanNotBeIsNoFault() {
        due(write(fresh(), "A1").fault(), NONE);
        due(write(minute99(), ".").fault(), NONE);
        due(write(fullBook(), "A1").fault(), NONE);
    }
}
