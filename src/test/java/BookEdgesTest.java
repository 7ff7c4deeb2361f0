/** The edges of promises 9 to 15 and of the Terms that show in them: sittings, the book. */
public final class BookEdgesTest extends Edges {
    public static void main(String[] args) {
        run(BookEdgesTest.class, 9, 15);
    }

    private static void judged(Start start, String text, int act, int why) {
        Start written = () -> write(start.make(), text);
        due(written.make().judge(0), act);
        due(written.make().judge(1), why);
        unchanged(written, x -> x.judge(0));
        unchanged(written, x -> x.judge(1));
    }

    private static void canBe(Start start, String text) {
        judged(start, text, NONE, NONE);
        due(write(start.make(), text).done() >= 0 ? 1 : 0, 1);
    }

    /** 31 bubbles, by A, who has 68 BREATH left; B has 1, C none, D has risen. */
    private static BubbleHouse nearlyFullBook() {
        BubbleHouse x = fill(one(0, 0, 99), 31);
        x.dive(1, 0, 1);
        x.dive(2, 0, 0);
        x.dive(3, 0, 5);
        return sit(x, "D^");
    }

    private static BubbleHouse reallyFullBook() {
        return sit(nearlyFullBook(), "A1");
    }

    /** How many minutes a bubble takes, by counting. */
    private static int up(int deep, int size) {
        int minutes = 0;
        for (int way = 0; way < deep; way += size) {
            minutes++;
        }
        return minutes;
    }

    // ---- promise 9: judge

    static void promise9_judge_anEmptyPadHasNothingThatCanNotBe() {
        judged(Edges::fresh, "", NONE, NONE);
        judged(Edges::minute99, "", NONE, NONE);
    }

    static void promise9_judge_anEmptyPadForgetsWhatCouldNotBe() {
        BubbleHouse x = write(three(), "A1B6");
        due(x.judge(1), 2);
        x.wipe();
        due(x.judge(0), NONE);
        due(x.judge(1), NONE);
        due(write(x, "A1").judge(0), NONE);
    }

    static void promise9_judge_whatBelow0OrAbove1IsOutside() {
        for (int what : new int[] {-1, 2, LEAST, MOST}) {
            refused(OUTSIDE, Edges::busy, x -> x.judge(what));
        }
    }

    static void promise9_judge_aFaultIsNo() {
        for (String text : new String[] {"x", "A0", "A1~", "G", "D1A"}) {
            refused(NO, written(Edges::busy, text), x -> x.judge(0));
            refused(NO, written(Edges::busy, text), x -> x.judge(1));
        }
    }

    static void promise9_judge_outsideComesAheadOfNo() {
        refused(OUTSIDE, written(Edges::busy, "A"), x -> x.judge(2));
        refused(OUTSIDE, written(Edges::busy, "x"), x -> x.judge(-1));
    }

    static void promise9_judge_why1WhoIsNotThereIsNotBelow() {
        judged(Edges::fresh, "A1", 0, 1);
        judged(Edges::fresh, "G^", 0, 1);
        judged(Edges::three, "D1", 0, 1);
        judged(() -> {
            BubbleHouse x = three();
            x.leave(0);
            return x;
        }, "A1", 0, 1);
    }

    static void promise9_judge_why1WhoHasRisenIsNotBelow() {
        judged(Edges::three, "A^A1", 1, 1);
        judged(Edges::three, "A^A^", 1, 1);
        judged(Edges::busy, "D1", 0, 1);
        judged(Edges::busy, "D^", 0, 1);
    }

    static void promise9_judge_why1WhoRoseWithoutBreathIsNotBelow() {
        judged(Edges::three, ".C^", 1, 1);
        judged(Edges::three, "B5.B^", 2, 1);
        canBe(Edges::three, "C^");
        canBe(Edges::three, "B4.B^");
    }

    static void promise9_judge_why2OneBreathTooLittle() {
        canBe(Edges::three, "B5");
        judged(Edges::three, "B6", 0, 2);
        canBe(Edges::three, "A9");
        judged(Edges::three, "B1B5", 1, 2);
        canBe(Edges::three, "B1B4");
        judged(Edges::three, ".B5", 1, 2);
        canBe(Edges::three, ".B4");
    }

    static void promise9_judge_why2WithoutBreath() {
        judged(Edges::three, "C1", 0, 2);
        judged(Edges::three, "B5B1", 1, 2);
    }

    static void promise9_judge_why3The33rdBubble() {
        canBe(BookEdgesTest::nearlyFullBook, "A1");
        judged(BookEdgesTest::nearlyFullBook, "A1A1", 1, 3);
        judged(BookEdgesTest::reallyFullBook, "A1", 0, 3);
        judged(BookEdgesTest::reallyFullBook, "B1", 0, 3);
    }

    static void promise9_judge_why3IsOfBubblesAlone() {
        canBe(BookEdgesTest::reallyFullBook, ".~9A^");
    }

    static void promise9_judge_why3CountsBubblesNotWords() {
        due(reallyFullBook().word(-1, 0), 1);
        judged(BookEdgesTest::reallyFullBook, "A9", 0, 3);
    }

    static void promise9_judge_why4NoMinuteBehindMinute99() {
        canBe(Edges::minute98, ".");
        judged(Edges::minute98, "..", 1, 4);
        judged(Edges::twoInMinute99, ".", 0, 4);
        judged(Edges::minute99, ".", 0, 4);
    }

    static void promise9_judge_why4IsOfMinutesAlone() {
        canBe(Edges::twoInMinute99, "A1~3A8A^B^");
    }

    static void promise9_judge_theLeastReasonIsTold() {
        judged(Edges::three, "D9", 0, 1);
        judged(BookEdgesTest::reallyFullBook, "E1", 0, 1);
        judged(BookEdgesTest::reallyFullBook, "D9", 0, 1);
        judged(BookEdgesTest::reallyFullBook, "B2", 0, 2);
        judged(BookEdgesTest::reallyFullBook, "C1", 0, 2);
    }

    static void promise9_judge_theFirstActIsTold() {
        judged(Edges::three, "B6D1", 0, 2);
        judged(Edges::three, "A1D1B6", 1, 1);
    }

    static void promise9_judge_countsActsNotSigns() {
        judged(Edges::three, "~1.A1.~2D1", 5, 1);
        judged(Edges::three, "...D1", 3, 1);
    }

    static void promise9_judge_ofAFullPad() {
        canBe(Edges::three, ".".repeat(60));
        judged(Edges::three, ".".repeat(58) + "D1", 58, 1);
        judged(() -> pass(fresh(), 40), ".".repeat(60), 59, 4);
        judged(Edges::three, "~1".repeat(29) + "D^", 29, 1);
        judged(Edges::three, "D^" + "~1".repeat(29), 0, 1);
    }

    // ---- promise 10: done

    static void promise10_done_anEmptyPadIs0Acts() {
        due(fresh().done(), 0);
        unchanged(Edges::fresh, x -> x.done());
        unchanged(Edges::minute99, x -> x.done());
    }

    static void promise10_done_anEmptyPadForgetsWhatCouldNotBe() {
        BubbleHouse x = write(three(), "B6");
        due(x.done(), NO);
        x.wipe();
        due(x.done(), 0);
        due(x.behind(1, 0), 5);
        due(x.then(0), 7);
    }

    static void promise10_done_aFullPadIsAllDone() {
        BubbleHouse x = write(fresh(), ".".repeat(60));
        due(x.done(), 60);
        due(x.told(3), 60);
        x = write(fresh(), "~1".repeat(29) + "~8");
        due(x.done(), 30);
        due(x.told(5), 8);
        x = write(fresh(), ".".repeat(58) + "~8");
        due(x.done(), 59);
        due(x.told(5), 8);
    }

    static void promise10_done_thePadIsEmptyThen() {
        BubbleHouse x = write(three(), "A1.");
        due(x.done(), 2);
        due(x.told(0), 0);
        due(x.done(), 0);
        due(x.told(7), 1);
        due(x.say('.'), 1);
    }

    static void promise10_done_aFaultIsNo() {
        for (String text : new String[] {"x", "A0", "A1~", "G", ".A", "A1B2.:"}) {
            refused(NO, written(Edges::busy, text), x -> x.done());
        }
        due(write(busy(), "A1B2.").done(), 3);
    }

    static void promise10_done_anActThatCanNotBeIsNo() {
        for (String text : new String[] {"E1", "D^", "B4", "A1.D1", "A^~9A1"}) {
            refused(NO, written(Edges::busy, text), x -> x.done());
        }
        refused(NO, written(Edges::minute99, "."), x -> x.done());
        refused(NO, written(BookEdgesTest::reallyFullBook, "A1"), x -> x.done());
        refused(NO, written(BookEdgesTest::nearlyFullBook, "A1A1"), x -> x.done());
    }

    static void promise10_done_theBookTakes32Bubbles() {
        BubbleHouse x = write(nearlyFullBook(), "A1");
        due(x.done(), 1);
        due(x.told(7), 32);
        due(x.word(0, 2), 32);
        due(write(x, "A1").done(), NO);
        due(x.told(7), 32);
    }

    static void promise10_done_minute99IsTheLast() {
        BubbleHouse x = write(minute98(), ".");
        due(x.done(), 1);
        due(x.told(3), 99);
        due(write(x, ".").done(), NO);
        due(x.told(3), 99);
        due(x.told(20), 8);
    }

    static void promise10_done_aBubbleTakesItsSizeOfBreath() {
        for (int size = 1; size <= 9; size++) {
            BubbleHouse x = write(one(0, 0, size), "A" + size);
            due(x.done(), 1);
            due(x.told(20), 0);
            due(x.told(2), 1);
            x = sit(one(0, 0, 99), "A" + size);
            due(x.told(20), 99 - size);
        }
    }

    static void promise10_done_whoHasNoBreathRisesInAMinute() {
        BubbleHouse x = sit(three(), ".");
        due(x.told(2), 3);
        due(x.told(1), 7);
        due(x.told(22), 0);
    }

    static void promise10_done_whoHas1BreathStaysAMinuteMore() {
        BubbleHouse x = sit(one(0, 0, 1), ".");
        due(x.told(2), 1);
        due(x.told(20), 0);
        sit(x, ".");
        due(x.told(2), 0);
        due(x.told(20), 0);
    }

    static void promise10_done_eachOtherOneBelowHas1Less() {
        BubbleHouse x = sit(three(), ".");
        due(x.told(20), 8);
        due(x.told(21), 4);
        x = sit(seven(0, 99), ".");
        for (int m = 0; m <= 6; m++) {
            due(x.told(20 + m), 98);
        }
    }

    static void promise10_done_whoHasRisenKeepsHisBreath() {
        BubbleHouse x = sit(three(), "A^..");
        due(x.told(20), 9);
        due(x.told(21), 3);
        due(x.told(2), 2);
    }

    static void promise10_done_aMinutePassesWithNobodyThere() {
        BubbleHouse x = write(fresh(), ".");
        due(x.done(), 1);
        due(x.told(3), 1);
    }

    static void promise10_done_members0And6AreTheEnds() {
        BubbleHouse x = sit(seven(0, 9), "A1G2");
        due(x.told(20), 8);
        due(x.told(26), 7);
        sit(x, "A^G^");
        due(x.told(2), 62);
        due(x.told(1), 127);
    }

    static void promise10_done_tides0And9AreTheEnds() {
        due(sit(fresh(), "~9").told(5), 9);
        due(sit(fresh(), "~9~0").told(5), 0);
    }

    static void promise10_done_whatIsOverOfDeepBySizeCountsAsOneMinute() {
        for (int deep = 1; deep <= 40; deep++) {
            BubbleHouse x = one(0, 0, 99);
            x.set(0, deep);
            for (int size = 1; size <= 9; size++) {
                x.close();
                due(sit(x, "A" + size).word(0, 0), up(deep, size));
            }
        }
    }

    static void promise10_done_behindPlace9ComesPlace0() {
        for (int place = 0; place <= 9; place++) {
            BubbleHouse x = one(0, place, 99);
            x.set(0, 1);
            for (int tide = 0; tide <= 9; tide++) {
                x.set(1, tide);
                x.close();
                due(sit(x, "A1").word(0, 1), (place + tide) % 10);
            }
        }
    }

    static void promise10_done_theRingIsGoneRoundManyTimes() {
        BubbleHouse x = one(0, 9, 99);
        x.set(0, 40);
        x.set(1, 9);
        due(sit(x, "A1").word(0, 1), 9);
        x.close();
        x.set(0, 39);
        due(sit(x, "A1").word(0, 1), 0);
        x.close();
        x.set(0, 38);
        due(sit(x, "A9").word(0, 1), 4);
    }

    static void promise10_done_deepAndTideAreThoseWhenABubbleIsMade() {
        BubbleHouse x = one(0, 0, 99);
        sit(x, "~1A3~2A3.~9");
        due(x.word(-1, 0), 2);
        due(x.word(0, 1), 4);
        due(x.word(1, 1), 8);
        x.set(0, 40);
        x.set(1, 7);
        x.dive(0, 5, 99);
        due(x.word(0, 0), 4);
        due(x.word(0, 1), 4);
        due(x.word(1, 0), 4);
        due(x.word(1, 1), 8);
        sit(x, "A9");
        due(x.word(2, 0), 6);
        due(x.word(2, 1), 0);
    }

    // ---- promise 11: behind

    static void promise11_behind_aMemberBelow0OrAbove6IsUnknown() {
        for (int m : NOT_MEMBERS) {
            refused(UNKNOWN, Edges::busy, x -> x.behind(m, 0));
            refused(UNKNOWN, Edges::busy, x -> x.behind(m, 1));
        }
    }

    static void promise11_behind_aMemberWhoIsNotThereIsUnknown() {
        refused(UNKNOWN, Edges::fresh, x -> x.behind(0, 0));
        refused(UNKNOWN, Edges::busy, x -> x.behind(4, 1));
        refused(UNKNOWN, Edges::busy, x -> x.behind(6, 0));
    }

    static void promise11_behind_whoHasRisenIsThere() {
        BubbleHouse x = busy();
        due(x.behind(3, 0), 12);
        due(x.behind(3, 1), 0);
        due(x.behind(2, 0), 0);
        due(x.behind(2, 1), 0);
    }

    static void promise11_behind_whatBelow0OrAbove1IsOutside() {
        for (int what : new int[] {-1, 2, LEAST, MOST}) {
            refused(OUTSIDE, Edges::busy, x -> x.behind(0, what));
        }
    }

    static void promise11_behind_aFaultIsNo() {
        for (String text : new String[] {"x", "A", "A1~"}) {
            refused(NO, written(Edges::busy, text), x -> x.behind(0, 0));
            refused(NO, written(Edges::busy, text), x -> x.behind(0, 1));
        }
    }

    static void promise11_behind_anActThatCanNotBeIsNo() {
        for (String text : new String[] {"E1", "B4", "A1.D1"}) {
            refused(NO, written(Edges::busy, text), x -> x.behind(0, 0));
            refused(NO, written(Edges::busy, text), x -> x.behind(0, 1));
        }
        refused(NO, written(Edges::twoInMinute99, "."), x -> x.behind(0, 0));
        refused(NO, written(BookEdgesTest::reallyFullBook, "A1"), x -> x.behind(0, 0));
    }

    static void promise11_behind_unknownComesAheadOfOutsideAndNo() {
        refused(UNKNOWN, Edges::busy, x -> x.behind(7, 2));
        refused(UNKNOWN, Edges::busy, x -> x.behind(4, -1));
        refused(UNKNOWN, written(Edges::busy, "A"), x -> x.behind(4, 0));
        refused(UNKNOWN, written(Edges::busy, "E1"), x -> x.behind(7, 0));
        refused(UNKNOWN, written(Edges::busy, "A"), x -> x.behind(4, 2));
    }

    static void promise11_behind_outsideComesAheadOfNo() {
        refused(OUTSIDE, written(Edges::busy, "A"), x -> x.behind(0, 2));
        refused(OUTSIDE, written(Edges::busy, "E1"), x -> x.behind(0, -1));
    }

    static void promise11_behind_anEmptyPadTellsHimAsHeIs() {
        BubbleHouse x = three();
        due(x.behind(0, 0), 9);
        due(x.behind(0, 1), 1);
        due(x.behind(2, 0), 0);
        due(x.behind(2, 1), 1);
    }

    static void promise11_behind_withoutBreathHeRises() {
        BubbleHouse x = write(three(), ".");
        due(x.behind(2, 0), 0);
        due(x.behind(2, 1), 0);
        due(x.behind(0, 0), 8);
        due(x.behind(0, 1), 1);
        write(x, "B5");
        due(x.behind(1, 0), 0);
        due(x.behind(1, 1), 1);
        write(x, "B5.");
        due(x.behind(1, 0), 0);
        due(x.behind(1, 1), 0);
    }

    static void promise11_behind_whoRisesKeepsHisBreath() {
        BubbleHouse x = write(three(), "A^..");
        due(x.behind(0, 0), 9);
        due(x.behind(0, 1), 0);
    }

    static void promise11_behind_members0And6AreTheEnds() {
        BubbleHouse x = write(seven(0, 99), "A9G8G^");
        due(x.behind(0, 0), 90);
        due(x.behind(0, 1), 1);
        due(x.behind(6, 0), 91);
        due(x.behind(6, 1), 0);
    }

    static void promise11_behind_nothingIsDoneInFact() {
        unchanged(Edges::busy, x -> x.behind(0, 0));
        unchanged(written(Edges::three, "A1B^.~9"), x -> x.behind(0, 1));
    }

    // ---- promise 12: then

    static void promise12_then_whatBelow0OrAbove3IsOutside() {
        for (int what : new int[] {-1, 4, LEAST, MOST}) {
            refused(OUTSIDE, Edges::busy, x -> x.then(what));
        }
    }

    static void promise12_then_aFaultIsNo() {
        for (int what = 0; what <= 3; what++) {
            int w = what;
            refused(NO, written(Edges::busy, "A"), x -> x.then(w));
            refused(NO, written(Edges::busy, ".x"), x -> x.then(w));
        }
    }

    static void promise12_then_anActThatCanNotBeIsNo() {
        for (int what = 0; what <= 3; what++) {
            int w = what;
            refused(NO, written(Edges::busy, "~1E1"), x -> x.then(w));
            refused(NO, written(Edges::minute99, "."), x -> x.then(w));
            refused(NO, written(BookEdgesTest::reallyFullBook, "A1"), x -> x.then(w));
        }
    }

    static void promise12_then_outsideComesAheadOfNo() {
        refused(OUTSIDE, written(Edges::busy, "A"), x -> x.then(4));
        refused(OUTSIDE, written(Edges::busy, "E1"), x -> x.then(-1));
    }

    static void promise12_then_anEmptyPadTellsAllAsItIs() {
        BubbleHouse x = busy();
        x.wipe();
        due(x.then(0), 3);
        due(x.then(1), 2);
        due(x.then(2), 7);
        due(x.then(3), 5);
    }

    static void promise12_then_nobodyAndAllSevenAreTheEnds() {
        due(write(fresh(), ".").then(0), 0);
        due(write(seven(0, 1), ".").then(0), 127);
        due(write(seven(0, 1), "..").then(0), 0);
        due(write(seven(0, 0), ".").then(0), 0);
    }

    static void promise12_then_minute99IsTheLast() {
        due(write(minute98(), ".").then(1), 99);
        due(write(minute98(), "..").then(1), NO);
        due(write(minute99(), "~1").then(1), 99);
    }

    static void promise12_then_tides0And9AreTheEnds() {
        due(write(busy(), "~0").then(2), 0);
        due(write(busy(), "~9").then(2), 9);
    }

    static void promise12_then_theBookTakes32Bubbles() {
        due(write(fresh(), ".").then(3), 0);
        due(write(nearlyFullBook(), "A1").then(3), 32);
        due(write(nearlyFullBook(), "A1A1").then(3), NO);
    }

    static void promise12_then_nothingIsDoneInFact() {
        for (int what = 0; what <= 3; what++) {
            int w = what;
            unchanged(Edges::busy, x -> x.then(w));
            unchanged(written(Edges::three, "A1B^.~9"), x -> x.then(w));
        }
    }

    // ---- promise 13: word

    static void promise13_word_anEmptyBookHas0Words() {
        BubbleHouse x = three();
        for (int what = 0; what <= 2; what++) {
            int w = what;
            due(x.word(-1, w), 0);
            refused(UNKNOWN, Edges::three, y -> y.word(0, w));
        }
    }

    static void promise13_word_beforeTheFirstAndBehindTheLastIsUnknown() {
        int words = busy().word(-1, 0);
        for (int i : new int[] {-2, words, words + 1, 31, 32, LEAST, MOST}) {
            for (int what = 0; what <= 2; what++) {
                int w = what;
                refused(UNKNOWN, Edges::busy, x -> x.word(i, w));
            }
        }
        due(busy().word(words - 1, 2) > 0 ? 1 : 0, 1);
    }

    static void promise13_word_whatBelow0OrAbove2IsOutside() {
        for (int what : new int[] {-1, 3, LEAST, MOST}) {
            refused(OUTSIDE, Edges::busy, x -> x.word(0, what));
        }
    }

    static void promise13_word_outsideComesAheadOfHowMany() {
        refused(OUTSIDE, Edges::busy, x -> x.word(-1, -1));
        refused(OUTSIDE, Edges::busy, x -> x.word(-1, 3));
        refused(OUTSIDE, Edges::fresh, x -> x.word(-1, 3));
    }

    static void promise13_word_outsideComesAheadOfUnknown() {
        refused(OUTSIDE, Edges::busy, x -> x.word(99, 3));
        refused(OUTSIDE, Edges::busy, x -> x.word(-2, -1));
        refused(OUTSIDE, Edges::fresh, x -> x.word(0, 3));
    }

    static void promise13_word_aFullBookOf32Words() {
        are32Words(bookOf32Words());
    }

    static void promise13_word_aFullBookMadeFromTheLastToTheFirst() {
        BubbleHouse x = fresh();
        for (int i = 31; i >= 0; i--) {
            makeWord(x, i);
        }
        are32Words(x);
    }

    static void promise13_word_the32ndBubbleMayBeAnyWord() {
        for (int last = 0; last < 32; last++) {
            BubbleHouse x = fresh();
            for (int i = 0; i < 32; i++) {
                if (i != last) {
                    makeWord(x, i);
                }
            }
            makeWord(x, last);
            are32Words(x);
        }
    }

    static void promise13_word_the32ndBubbleMayJoinAnyWord() {
        for (int join = 0; join < 31; join++) {
            BubbleHouse x = fresh();
            for (int i = 0; i < 31; i++) {
                makeWord(x, i);
            }
            makeWord(x, join);
            due(x.told(7), 32);
            due(x.word(-1, 0), 31);
            due(x.word(join, 2), 2);
            due(x.word(31, 0), UNKNOWN);
        }
    }

    static void promise13_word_aFullBookOfOneWordOfSize288() {
        BubbleHouse x = seven(4, 99);
        sit(x, "A9".repeat(11) + "B9".repeat(11));
        sit(x, "C9".repeat(10));
        due(x.told(7), 32);
        due(x.word(-1, 2), 1);
        due(x.word(0, 0), 2);
        due(x.word(0, 1), 4);
        due(x.word(0, 2), 288);
        due(x.word(1, 2), UNKNOWN);
    }

    static void promise13_word_minute139IsTheLastOne() {
        BubbleHouse x = twoInMinute99();
        x.set(0, 40);
        sit(x, "A1A2");
        due(x.word(0, 0), 119);
        due(x.word(1, 0), 139);
        due(x.word(1, 1), 3);
    }

    static void promise13_word_oneMinuteAndOnePlaceMakeOneWord() {
        BubbleHouse x = sit(three(), "A3B3");
        due(x.word(-1, 0), 1);
        due(x.word(0, 2), 6);
    }

    static void promise13_word_bubblesOfManyMinutesMeet() {
        BubbleHouse x = sit(one(0, 2, 99), "A1.......A3");
        due(x.word(-1, 0), 2);
        x = sit(one(0, 2, 99), "A1........A3");
        due(x.word(-1, 0), 1);
        due(x.word(0, 0), 12);
        due(x.word(0, 2), 4);
    }

    static void promise13_word_anotherPlaceMakesAnotherWord() {
        BubbleHouse x = one(0, 2, 9);
        x.dive(1, 3, 9);
        sit(x, "B3A3");
        due(x.word(-1, 0), 2);
        due(x.word(0, 1), 2);
        due(x.word(1, 1), 3);
    }

    static void promise13_word_anotherMinuteMakesAnotherWord() {
        BubbleHouse x = sit(one(0, 2, 99), ".A3");
        x.set(0, 9);
        sit(x, "A9A3");
        due(x.word(-1, 0), 3);
        due(x.word(0, 0), 2);
        due(x.word(1, 0), 4);
        due(x.word(2, 0), 5);
    }

    static void promise13_word_minutesComeAheadOfPlaces() {
        BubbleHouse x = one(0, 9, 99);
        x.dive(1, 0, 99);
        sit(x, "B3A4");
        due(x.word(0, 0), 3);
        due(x.word(0, 1), 9);
        due(x.word(1, 0), 4);
        due(x.word(1, 1), 0);
    }

    static void promise13_word_whatDriftsBehindPlace9IsToldFirst() {
        BubbleHouse x = one(0, 8, 99);
        x.set(0, 1);
        sit(x, "~0A1~1A1~2A1");
        due(x.word(0, 1), 0);
        due(x.word(1, 1), 8);
        due(x.word(2, 1), 9);
    }

    static void promise13_word_isToldOnItsWayAndAfter() {
        BubbleHouse x = sit(one(0, 0, 99), "A3");
        due(x.word(0, 0), 4);
        sit(x, "....");
        due(x.word(0, 0), 4);
        sit(x, ".");
        due(x.word(-1, 0), 1);
        due(x.word(0, 0), 4);
    }

    static void promise13_word_asksOnly() {
        unchanged(Edges::busy, x -> x.word(-1, 0) + x.word(0, 0) + x.word(1, 1) + x.word(2, 2));
    }

    // ---- promise 14: votes

    private static void counted(BubbleHouse x, int from, int to, int ayes, int noes) {
        due(x.votes(from, to, 0), ayes);
        due(x.votes(from, to, 1), noes);
    }

    static void promise14_votes_fromBelow0OrAbove999IsOutside() {
        for (int from : new int[] {-1, 1000, LEAST, MOST}) {
            refused(OUTSIDE, Edges::busy, x -> x.votes(from, 5, 0));
        }
    }

    static void promise14_votes_toBelow0OrAbove999IsOutside() {
        for (int to : new int[] {-1, 1000, LEAST, MOST}) {
            refused(OUTSIDE, Edges::busy, x -> x.votes(5, to, 1));
        }
    }

    static void promise14_votes_whatBelow0OrAbove1IsOutside() {
        for (int what : new int[] {-1, 2, LEAST, MOST}) {
            refused(OUTSIDE, Edges::busy, x -> x.votes(0, 9, what));
        }
    }

    static void promise14_votes_minutes0And999AreTheEnds() {
        BubbleHouse x = sit(three(), "A1B3");
        counted(x, 0, 999, 1, 1);
        counted(x, 0, 0, 0, 0);
        counted(x, 999, 999, 0, 0);
        counted(x, 999, 0, 0, 0);
    }

    static void promise14_votes_anEmptyBookHasNone() {
        counted(three(), 0, 999, 0, 0);
    }

    static void promise14_votes_sizes1And2AreAyes3IsANo() {
        counted(sit(one(0, 0, 9), "A1"), 0, 999, 1, 0);
        counted(sit(one(0, 0, 9), "A2"), 0, 999, 1, 0);
        counted(sit(one(0, 0, 9), "A3"), 0, 999, 0, 1);
        counted(sit(one(0, 0, 9), "A9"), 0, 999, 0, 1);
    }

    static void promise14_votes_countWordsAsBigAsAllTogether() {
        counted(sit(one(0, 0, 9), "A1A1"), 0, 999, 1, 0);
        counted(sit(one(0, 0, 9), "A1A1A1"), 0, 999, 0, 1);
        counted(sit(one(0, 0, 9), "A2A2"), 0, 999, 0, 1);
    }

    static void promise14_votes_bothEndsCount() {
        BubbleHouse x = sit(one(0, 0, 9), "A2A3");
        counted(x, 6, 6, 1, 0);
        counted(x, 4, 4, 0, 1);
        counted(x, 4, 6, 1, 1);
        counted(x, 5, 5, 0, 0);
        counted(x, 0, 3, 0, 0);
        counted(x, 7, 999, 0, 0);
        counted(x, 5, 6, 1, 0);
        counted(x, 4, 5, 0, 1);
    }

    static void promise14_votes_throughAnEarlierMinuteThereAreNone() {
        BubbleHouse x = sit(one(0, 0, 9), "A2A3");
        counted(x, 6, 4, 0, 0);
        counted(x, 6, 5, 0, 0);
        counted(x, 5, 4, 0, 0);
    }

    static void promise14_votes_ofAFullBook() {
        counted(bookOf32Words(), 0, 999, 32, 0);
        counted(bookOf32Words(), 14, 14, 2, 0);
        counted(bookOf32Words(), 11, 11, 10, 0);
        counted(fullBook(), 0, 999, 0, 1);
    }

    static void promise14_votes_beyondMinute99() {
        BubbleHouse x = twoInMinute99();
        x.set(0, 40);
        sit(x, "A1A3");
        counted(x, 100, 138, 0, 1);
        counted(x, 139, 139, 1, 0);
        counted(x, 140, 999, 0, 0);
    }

    static void promise14_votes_asksOnly() {
        unchanged(Edges::busy, x -> x.votes(0, 999, 0) + x.votes(0, 999, 1));
    }

    // ---- promise 15: falls

    static void promise15_falls_0IfNobodyIsBelow() {
        due(fresh().falls(), 0);
        due(sit(one(0, 0, 50), "A^").falls(), 0);
        BubbleHouse x = one(0, 0, 50);
        x.leave(0);
        due(x.falls(), 0);
        due(sit(one(0, 0, 0), ".").falls(), 0);
    }

    static void promise15_falls_1WithoutBreath() {
        due(one(0, 0, 0).falls(), 1);
        due(seven(0, 0).falls(), 1);
    }

    static void promise15_falls_aMinuteMoreThanBreath() {
        due(one(0, 0, 1).falls(), 2);
        due(one(0, 0, 98).falls(), 99);
        due(one(0, 0, 99).falls(), 100);
    }

    static void promise15_falls_theLongestBreathCounts() {
        for (int m = 0; m <= 6; m++) {
            BubbleHouse x = seven(0, 3);
            x.dive(m, 0, 7);
            due(x.falls(), 8);
        }
    }

    static void promise15_falls_whoHasRisenDoesNotCount() {
        BubbleHouse x = sit(three(), "A^");
        due(x.falls(), 6);
    }

    static void promise15_falls_isWhenTheLastRisesInFact() {
        BubbleHouse x = three();
        int minutes = 0;
        while (x.told(2) != 0 && minutes < 50) {
            due(x.falls(), 10 - minutes);
            sit(x, ".");
            minutes++;
        }
        due(minutes, 10);
        due(x.falls(), 0);
    }

    static void promise15_falls_countsOnBeyondMinute99() {
        due(twoInMinute99().falls(), 10);
        BubbleHouse x = minute98();
        x.dive(6, 0, 99);
        due(x.falls(), 100);
    }

    static void promise15_falls_asksOnly() {
        unchanged(Edges::busy, x -> x.falls());
    }
}
