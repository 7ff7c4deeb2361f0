/** One method a promise: ordinary inputs, the edges that the document names, and wrong inputs. */
public final class PromisesTest {
    private static final int NONE = -6, UNKNOWN = -1, OUTSIDE = -2, STATE = -3, FULL = -4, NO = -5;
    private static final long LOST_OUTSIDE = -1000000000000000002L;
    private static final int[] NOT_MEMBERS = {-1, 7, 31, 32, 33, Integer.MIN_VALUE, Integer.MAX_VALUE};

    private static int wrong = 0;
    private static int checks = 0;
    private static int promise = 0;

    private static void due(String what, long got, long want) {
        checks++;
        if (got != want) {
            wrong++;
            System.out.println("promise " + promise + ": " + what + " answered " + got + ", due is " + want);
        }
    }

    /** A at 2 with 9, B at 2 with 5, C at 7 without breath. */
    private static BubbleHouse three() {
        BubbleHouse x = new BubbleHouse();
        x.dive(0, 2, 9);
        x.dive(1, 2, 5);
        x.dive(2, 7, 0);
        return x;
    }

    private static BubbleHouse write(BubbleHouse x, String text) {
        x.wipe();
        for (int i = 0; i < text.length(); i++) {
            x.say(text.charAt(i));
        }
        return x;
    }

    private static BubbleHouse sit(BubbleHouse x, String text) {
        write(x, text).done();
        return x;
    }

    /** All that can be told of a house, so that a refused call can be seen to change nothing. */
    private static String all(BubbleHouse x) {
        StringBuilder s = new StringBuilder();
        for (int what = 0; what < 40; what++) {
            s.append(x.told(what)).append(' ');
        }
        for (int i = 0; i < x.word(-1, 0); i++) {
            s.append(x.word(i, 0)).append(',').append(x.word(i, 1)).append(',').append(x.word(i, 2)).append(' ');
        }
        return s.append(x.whose()).toString();
    }

    private static void same(String what, String before, BubbleHouse x) {
        due(what + " changes nothing", all(x).equals(before) ? 1 : 0, 1);
    }

    public static void main(String[] args) {
        newObject();
        dive();
        leave();
        set();
        close();
        say();
        wipe();
        fault();
        judge();
        done();
        behind();
        then();
        word();
        votes();
        falls();
        speak();
        laws();
        power();
        held();
        hours();
        orders();
        seen();
        forget();
        whose();
        alike();
        filibuster();
        breaks();
        day();
        image();
        restore();
        told();
        System.out.println("PromisesTest: " + checks + " checks, " + wrong + " wrong");
        if (wrong != 0) {
            System.exit(1);
        }
    }

    private static void newObject() {
        promise = 1;
        BubbleHouse x = new BubbleHouse();
        int[] due = {0, 0, 0, 0, 12, 0, 0, 0};
        for (int what = 0; what < due.length; what++) {
            due("told(" + what + ")", x.told(what), due[what]);
        }
        for (int law = 0; law < 6; law++) {
            due("told(30 and " + law + ")", x.told(30 + law), 16777215);
        }
        due("word(-1, 0)", x.word(-1, 0), 0);
        due("restore(0)", x.restore(0), STATE);
        due("restore(1)", x.restore(1), STATE);
        BubbleHouse other = three();
        due("another object's members", x.told(1), 0);
        due("its own", other.told(1), 7);
    }

    private static void dive() {
        promise = 2;
        BubbleHouse x = new BubbleHouse();
        due("dive(6, 9, 99)", x.dive(6, 9, 99), 1);
        due("dive(0, 0, 0)", x.dive(0, 0, 0), 2);
        due("place", x.told(16), 9);
        due("breath", x.told(26), 99);
        due("anew", x.dive(6, 3, 4), 2);
        due("place anew", x.told(16), 3);
        due("breath anew", x.told(26), 4);
        sit(x, "G^");
        due("below after rising", x.told(2), 1);
        due("dive after rising", x.dive(1, 1, 1), 2);
        due("anew after rising", x.dive(6, 3, 4), 3);
        due("below again", x.told(2), 67);
        String before = all(x);
        for (int m : NOT_MEMBERS) {
            due("dive(" + m + ")", x.dive(m, 0, 0), UNKNOWN);
            due("dive(" + m + ", 10, 100)", x.dive(m, 10, 100), UNKNOWN);
        }
        due("place -1", x.dive(2, -1, 0), OUTSIDE);
        due("place 10", x.dive(2, 10, 0), OUTSIDE);
        due("breath -1", x.dive(2, 0, -1), OUTSIDE);
        due("breath 100", x.dive(2, 0, 100), OUTSIDE);
        due("breath 100 anew", x.dive(0, 0, 100), OUTSIDE);
        same("a refused dive", before, x);
    }

    private static void leave() {
        promise = 3;
        BubbleHouse x = three();
        sit(x, "C^A1");
        due("leave(1)", x.leave(1), 2);
        due("there", x.told(1), 5);
        due("below", x.told(2), 1);
        due("who has left", x.told(11), OUTSIDE);
        due("the book stays", x.told(7), 1);
        due("who is not below may leave", x.leave(2), 1);
        String before = all(x);
        due("leave twice", x.leave(1), UNKNOWN);
        for (int m : NOT_MEMBERS) {
            due("leave(" + m + ")", x.leave(m), UNKNOWN);
        }
        same("a refused leave", before, x);
        due("the last", x.leave(0), 0);
        due("nobody below", x.told(2), 0);
    }

    private static void set() {
        promise = 4;
        BubbleHouse x = new BubbleHouse();
        due("set(0, 1)", x.set(0, 1), 12);
        due("set(0, 40)", x.set(0, 40), 1);
        due("told(4)", x.told(4), 40);
        due("set(1, 9)", x.set(1, 9), 0);
        due("set(1, 0)", x.set(1, 0), 9);
        due("set(1, 7)", x.set(1, 7), 0);
        due("told(5)", x.told(5), 7);
        String before = all(x);
        int[][] outside = {{0, 0}, {0, 41}, {0, -1}, {1, -1}, {1, 10}, {-1, 5}, {2, 5}};
        for (int[] a : outside) {
            due("set(" + a[0] + ", " + a[1] + ")", x.set(a[0], a[1]), OUTSIDE);
        }
        same("a refused set", before, x);
    }

    private static void close() {
        promise = 5;
        BubbleHouse x = sit(three(), "A1A1B2~3.");
        x.seen(1, 12, 2);
        due("minute", x.told(3), 1);
        due("close()", x.close(), 3);
        due("minute after", x.told(3), 0);
        due("words after", x.word(-1, 0), 0);
        due("bubbles after", x.told(7), 0);
        due("close() again", x.close(), 0);
        due("the tide stays", x.told(5), 3);
        due("sights stay", x.told(6), 1);
        due("breath stays", x.told(20), 6);
        due("below stays", x.told(2), 3);
        sit(x, "A2");
        due("a word after", x.word(0, 2), 2);
        due("only one", x.word(-1, 0), 1);
    }

    private static void say() {
        promise = 6;
        BubbleHouse x = new BubbleHouse();
        int[] outside = {32, 127, 0, -1, 33 + 256, Integer.MIN_VALUE, Integer.MAX_VALUE};
        for (int sign : outside) {
            due("say(" + sign + ")", x.say(sign), OUTSIDE);
        }
        due("say(33)", x.say(33), 1);
        due("say(126)", x.say(126), 2);
        for (int i = 3; i <= 60; i++) {
            due("sign " + i, x.say('.'), i);
        }
        due("sign 61", x.say('.'), FULL);
        due("outside ahead of full", x.say(32), OUTSIDE);
        due("signs", x.told(0), 60);
        due("wipe()", x.wipe(), 60);
        due("say after", x.say('.'), 1);
        due("the new sign counts", x.fault(), NONE);
    }

    private static void wipe() {
        promise = 7;
        BubbleHouse x = three();
        due("nothing", x.wipe(), 0);
        write(x, "A1x");
        due("three", x.wipe(), 3);
        due("signs", x.told(0), 0);
        due("again", x.wipe(), 0);
        due("fault", x.fault(), NONE);
        write(x, "A");
        due("old signs are gone", x.fault(), 1);
        due("the house stays", x.told(1), 7);
    }

    private static void fault() {
        promise = 8;
        Object[][] texts = {
            {"", NONE}, {".", NONE}, {"A1", NONE}, {"G9", NONE}, {"D^", NONE}, {"~0", NONE}, {"~9", NONE},
            {"A1.~3B^..C9", NONE}, {"A", 1}, {"~", 1}, {"..~", 3}, {"A1B", 3}, {"H", 0}, {"H1", 0}, {"@1", 0},
            {"a1", 0}, {"1", 0}, {"^", 0}, {"A0", 1}, {"A:", 1}, {"A.", 1}, {"AA", 1}, {"A~", 1}, {"~^", 1},
            {"~/", 1}, {"~:", 1}, {"~.", 1}, {"~~", 1}, {"A1!", 2}, {"..x", 2}, {"A12", 2}, {"A0H", 1}, {"~A", 1},
            {"A^^", 2}, {"}", 0}, {"A_", 1}, {"A]", 1}, {"-", 0}, {"/", 0}, {"AH", 1}
        };
        BubbleHouse x = new BubbleHouse();
        for (Object[] t : texts) {
            due("fault of " + t[0], write(x = new BubbleHouse(), (String) t[0]).fault(), (Integer) t[1]);
        }
        StringBuilder sixty = new StringBuilder();
        for (int i = 0; i < 59; i++) {
            sixty.append('.');
        }
        due("more must come of a full pad", write(x, sixty + "A").fault(), 60);
    }

    private static void judge() {
        promise = 9;
        due("nothing to judge", new BubbleHouse().judge(0), NONE);
        judged("A3", NONE, NONE);
        judged("A9", NONE, NONE);
        judged("B6", 0, 2);
        judged("C1", 0, 2);
        judged("D1", 0, 1);
        judged("D^", 0, 1);
        judged("A^A1", 1, 1);
        judged("A^A^", 1, 1);
        judged(".C1", 1, 1);
        judged(".A9", 1, 2);
        judged(".A8", NONE, NONE);
        judged("A8.A1", 2, 2);
        judged("A9.A1", 2, 1);
        judged("A9..A1", 3, 1);
        judged("~1.~2D1A^", 3, 1);
        BubbleHouse x = three();
        due("judge(2)", x.judge(2), OUTSIDE);
        due("judge(-1)", x.judge(-1), OUTSIDE);
        write(x, "D1A");
        due("a fault", x.judge(0), NO);
        due("a fault, why", x.judge(1), NO);
        due("outside ahead of no", x.judge(2), OUTSIDE);
        judgedFull();
        judgedLate();
    }

    private static void judged(String text, int act, int why) {
        BubbleHouse x = write(three(), text);
        String before = all(x);
        due("judge(0) of " + text, x.judge(0), act);
        due("judge(1) of " + text, x.judge(1), why);
        same("judge of " + text, before, x);
    }

    private static void judgedFull() {
        BubbleHouse x = new BubbleHouse();
        x.dive(0, 0, 99);
        x.dive(1, 0, 1);
        sit(x, "A1A1A1A1A1A1A1A1A1A1A1A1A1A1A1A1A1A1A1A1A1A1A1A1A1A1A1A1A1A1");
        due("bubbles", x.told(7), 30);
        write(x, "A1A1");
        due("32 fit", x.judge(0), NONE);
        write(x, "A1A1A1");
        due("33 do not", x.judge(0), 2);
        due("why", x.judge(1), 3);
        write(x, "A1A1B2");
        due("breath ahead of the book", x.judge(1), 2);
        write(x, "A1A1C1");
        due("below ahead of the book", x.judge(1), 1);
        write(x, "A1A1.~1A^");
        due("other acts go on", x.judge(1), NONE);
        sit(x, "A1A1");
        due("32 in the book", x.told(7), 32);
        write(x, ".A1");
        due("full", x.judge(0), 1);
        x.close();
        due("closed", x.judge(0), NONE);
    }

    private static void judgedLate() {
        BubbleHouse x = new BubbleHouse();
        x.dive(0, 0, 99);
        StringBuilder dots = new StringBuilder();
        for (int i = 0; i < 50; i++) {
            dots.append('.');
        }
        sit(x, dots.toString());
        due("minute", x.told(3), 50);
        write(x, dots.substring(1));
        due("to minute 99", x.judge(0), NONE);
        write(x, dots.toString());
        due("no minute behind 99", x.judge(0), 49);
        due("why", x.judge(1), 4);
        sit(x, dots.substring(1));
        due("minute 99", x.told(3), 99);
        due("breath", x.told(20), 0);
        write(x, "~1A^.");
        due("still late", x.judge(0), 2);
        due("not done", x.done(), NO);
        write(x, "~1A^");
        due("no minute asked", x.done(), 2);
    }

    private static void done() {
        promise = 10;
        BubbleHouse x = three();
        due("nothing", x.done(), 0);
        write(x, "A3B3~1A2.");
        due("five acts", x.done(), 5);
        due("signs", x.told(0), 0);
        due("A's breath", x.told(20), 3);
        due("B's breath", x.told(21), 1);
        due("C's breath", x.told(22), 0);
        due("below", x.told(2), 3);
        due("there", x.told(1), 7);
        due("minute", x.told(3), 1);
        due("tide", x.told(5), 1);
        due("bubbles", x.told(7), 3);
        write(x, "B1A9");
        String before = all(x);
        due("too much", x.done(), NO);
        same("a sitting that can not be", before, x);
        write(x, "A1B");
        before = all(x);
        due("a fault", x.done(), NO);
        same("a fault", before, x);
        due("the pad stays", x.told(0), 3);
        x.say('1');
        due("mended", x.done(), 2);
        due("no breath, but below", x.told(2), 3);
        StringBuilder sixty = new StringBuilder();
        for (int i = 0; i < 30; i++) {
            sixty.append("~").append(i % 10);
        }
        due("a full pad", write(x, sixty.toString()).done(), 30);
        due("its last sign", x.told(5), 9);
        write(x, ".");
        x.done();
        due("who had none rises", x.told(2), 1);
        due("the other one has 1 less", x.told(20), 1);
    }

    private static void behind() {
        promise = 11;
        BubbleHouse x = write(three(), "A3B^.");
        String before = all(x);
        due("A's breath", x.behind(0, 0), 5);
        due("A below", x.behind(0, 1), 1);
        due("B keeps his breath", x.behind(1, 0), 5);
        due("B not below", x.behind(1, 1), 0);
        due("C's breath", x.behind(2, 0), 0);
        due("C not below", x.behind(2, 1), 0);
        due("D", x.behind(3, 0), UNKNOWN);
        for (int m : NOT_MEMBERS) {
            due("behind(" + m + ", 0)", x.behind(m, 0), UNKNOWN);
            due("behind(" + m + ", 9)", x.behind(m, 9), UNKNOWN);
        }
        due("what 2", x.behind(0, 2), OUTSIDE);
        due("what -1", x.behind(0, -1), OUTSIDE);
        same("behind", before, x);
        x.say('A');
        due("a fault", x.behind(0, 0), NO);
        due("unknown ahead of no", x.behind(3, 0), UNKNOWN);
        due("outside ahead of no", x.behind(0, 2), OUTSIDE);
        x.say('9');
        due("can not be", x.behind(1, 1), NO);
        x.wipe();
        due("an empty pad", x.behind(1, 0), 5);
        due("an empty pad, below", x.behind(2, 1), 1);
    }

    private static void then() {
        promise = 12;
        BubbleHouse x = write(three(), "A3~7B^B^");
        due("can not be", x.then(0), NO);
        write(x, "A3~7B^.A1");
        String before = all(x);
        due("who", x.then(0), 1);
        due("minute", x.then(1), 1);
        due("tide", x.then(2), 7);
        due("bubbles", x.then(3), 2);
        due("what 4", x.then(4), OUTSIDE);
        due("what -1", x.then(-1), OUTSIDE);
        same("then", before, x);
        x.say('~');
        due("a fault", x.then(1), NO);
        due("outside ahead of no", x.then(4), OUTSIDE);
        x.wipe();
        due("an empty pad", x.then(0), 7);
    }

    private static void word() {
        promise = 13;
        BubbleHouse x = three();
        x.dive(3, 0, 30);
        due("none", x.word(-1, 2), 0);
        sit(x, "A3B3D2~1A2D5");
        words(x, new int[][] {{3, 3, 5}, {4, 2, 6}, {6, 0, 2}, {6, 8, 2}});
        sit(x, ".~9D9D4~0D6");
        words(x, new int[][] {{3, 0, 6}, {3, 3, 5}, {3, 8, 9}, {4, 2, 6}, {4, 7, 4}, {6, 0, 2}, {6, 8, 2}});
        sit(x, "~3D1");
        words(x, new int[][] {{3, 0, 6}, {3, 3, 5}, {3, 8, 9}, {4, 2, 6}, {4, 7, 4}, {6, 0, 2}, {6, 8, 2},
            {13, 6, 1}});
        for (int what = -1; what <= 3; what += 4) {
            due("word(-1, " + what + ")", x.word(-1, what), OUTSIDE);
            due("word(0, " + what + ")", x.word(0, what), OUTSIDE);
            due("word(99, " + what + ")", x.word(99, what), OUTSIDE);
        }
        due("word(8, 0)", x.word(8, 0), UNKNOWN);
        due("word(-2, 0)", x.word(-2, 0), UNKNOWN);
        due("word(least, 0)", x.word(Integer.MIN_VALUE, 0), UNKNOWN);
        due("word(most, 0)", x.word(Integer.MAX_VALUE, 0), UNKNOWN);
        x.set(0, 40);
        x.set(1, 9);
        x.leave(0);
        due("what is made stays", x.word(0, 0), 3);
        due("what is made stays", x.word(7, 1), 6);
        wordsTold();
    }

    private static void words(BubbleHouse x, int[][] due) {
        for (int what = 0; what < 3; what++) {
            due("word(-1, " + what + ")", x.word(-1, what), due.length);
            for (int i = 0; i < due.length; i++) {
                due("word(" + i + ", " + what + ")", x.word(i, what), due[i][what]);
            }
        }
    }

    /** A full book of 32 words, told from the last to the first. */
    private static void wordsTold() {
        BubbleHouse x = new BubbleHouse();
        x.dive(0, 0, 99);
        x.set(0, 1);
        for (int i = 0; i < 20; i++) {
            sit(x, "~" + (9 - i % 10) + "A1" + (i % 10 == 9 ? "." : ""));
        }
        x.dive(1, 5, 99);
        for (int i = 0; i < 12; i++) {
            sit(x, "B1.");
        }
        due("words", x.word(-1, 0), 32);
        due("bubbles", x.told(7), 32);
        int last = -1;
        for (int i = 0; i < 32; i++) {
            int at = 10 * x.word(i, 0) + x.word(i, 1);
            due("rising at " + i, at > last ? 1 : 0, 1);
            due("size of " + i, x.word(i, 2), 1);
            last = at;
        }
    }

    private static void votes() {
        promise = 14;
        BubbleHouse x = new BubbleHouse();
        x.dive(0, 0, 99);
        x.set(0, 1);
        sit(x, "A1.A1A1.A3.A1A1A1.A2.A9");
        int[][] due = {{0, 999, 3, 3}, {1, 1, 1, 0}, {2, 2, 1, 0}, {3, 3, 0, 1}, {4, 4, 0, 1}, {5, 5, 1, 0}, {6, 6, 0, 1},
            {0, 0, 0, 0}, {7, 999, 0, 0}, {2, 5, 2, 2}, {5, 2, 0, 0}, {999, 0, 0, 0}, {999, 999, 0, 0}};
        for (int[] d : due) {
            due("ayes " + d[0] + " to " + d[1], x.votes(d[0], d[1], 0), d[2]);
            due("noes " + d[0] + " to " + d[1], x.votes(d[0], d[1], 1), d[3]);
        }
        int[][] outside = {{-1, 0, 0}, {1000, 0, 0}, {0, -1, 0}, {0, 1000, 0}, {0, 0, -1}, {0, 0, 2}};
        for (int[] a : outside) {
            due("votes outside", x.votes(a[0], a[1], a[2]), OUTSIDE);
        }
    }

    private static void falls() {
        promise = 15;
        BubbleHouse x = new BubbleHouse();
        due("nobody", x.falls(), 0);
        x.dive(0, 0, 7);
        due("the first alone", x.falls(), 8);
        x.leave(0);
        x.dive(6, 0, 7);
        due("the last alone", x.falls(), 8);
        x.leave(6);
        x.dive(2, 0, 0);
        due("without breath", x.falls(), 1);
        x.dive(4, 0, 99);
        due("the longest", x.falls(), 100);
        sit(x, "E^");
        due("who is above does not count", x.falls(), 1);
        x.dive(6, 0, 3);
        due("three", x.falls(), 4);
        sit(x, "....");
        due("all have risen", x.falls(), 0);
        due("and are above", x.told(2), 0);
        x.dive(6, 0, 3);
        x.leave(6);
        due("who has left does not count", x.falls(), 0);
    }

    private static void speak() {
        promise = 16;
        BubbleHouse x = three();
        spoken(x, 0, 2, 4, 5, 3, 0);
        spoken(x, 0, 2, 12, 2, 1, 0);
        spoken(x, 0, 2, 20, 1, 1, 8);
        spoken(x, 0, 2, 21, 0, NONE, NONE);
        spoken(x, 0, 3, 4, 0, NONE, NONE);
        spoken(x, 0, 2, 2, 4, 6, 0);
        spoken(x, 0, 2, 1, 0, NONE, NONE);
        spoken(x, 0, 2, 0, 0, NONE, NONE);
        spoken(x, 1, 2, 8, 1, 2, 2);
        spoken(x, 2, 7, 12, 0, NONE, NONE);
        x.set(1, 3);
        spoken(x, 0, 4, 4, 1, 3, 0);
        spoken(x, 0, 8, 3, 3, 6, 1);
        spoken(x, 0, 1, 4, 2, 4, 1);
        spoken(x, 0, 8, 12, 1, 1, 0);
        sit(x, "..");
        spoken(x, 0, 4, 6, 1, 3, 0);
        spoken(x, 0, 4, 4, 0, NONE, NONE);
        spokenWrongly(x);
        spokenLate();
    }

    private static void spoken(BubbleHouse x, int member, int place, int minute, int sizes, int least, int wait) {
        String call = "speak(" + member + ", " + place + ", " + minute;
        due(call + ", 0)", x.speak(member, place, minute, 0), sizes);
        due(call + ", 1)", x.speak(member, place, minute, 1), least);
        due(call + ", 2)", x.speak(member, place, minute, 2), wait);
    }

    private static void spokenWrongly(BubbleHouse x) {
        due("who has risen", x.speak(2, 0, 0, 0), UNKNOWN);
        due("unknown ahead of outside", x.speak(2, 10, 0, 0), UNKNOWN);
        for (int m : NOT_MEMBERS) {
            due("speak(" + m + ")", x.speak(m, 0, 0, 0), UNKNOWN);
        }
        int[][] outside = {{-1, 0, 0}, {10, 0, 0}, {0, -1, 0}, {0, 1000, 0}, {0, 0, -1}, {0, 0, 3}};
        for (int[] a : outside) {
            due("speak outside", x.speak(0, a[0], a[1], a[2]), OUTSIDE);
        }
        due("minute 999", x.speak(0, 0, 999, 0), 0);
    }

    private static void spokenLate() {
        BubbleHouse x = new BubbleHouse();
        x.dive(0, 0, 99);
        x.set(0, 1);
        sit(x, "A1A1A1A1A1A1A1A1A1A1A1A1A1A1A1A1A1A1A1A1A1A1A1A1A1A1A1A1A1A1");
        sit(x, "A1A1");
        due("a full book", x.told(7), 32);
        sit(x, "........................................");
        sit(x, "...........................");
        due("minute", x.told(3), 67);
        x.dive(0, 0, 99);
        spoken(x, 0, 0, 166, 1, 1, 98);
        spoken(x, 0, 0, 165, 2, 1, 97);
        spoken(x, 0, 0, 158, 9, 1, 90);
        spoken(x, 0, 0, 167, 0, NONE, NONE);
        spoken(x, 0, 0, 68, 9, 1, 0);
    }

    private static void laws() {
        promise = 17;
        BubbleHouse x = new BubbleHouse();
        lawful(x, 321, 956, 3, 11, 3, 2);
        lawful(x, 321, 956, 0, 0, 0, 1);
        lawful(x, 321, 956, 54, 20, 7, 0);
        lawful(x, 321, 956, 6, 20, 7, 1);
        lawful(x, 321, 956, 5, 15, 5, 1);
        lawful(x, 101, 999999, 54, 18, 5, 0);
        lawful(x, 111111, 111111, 3, 3, 7, 20);
        lawful(x, 111111, 100000, 1, 1, 32, 6);
        lawful(x, 999999, 999999, 54, 54, 63, 1);
        lawful(x, 999999, 0, 54, 0, 0, 1);
        lawful(x, 0, 999999, 54, 0, 0, 0);
        lawful(x, 0, 999999, 0, 0, 0, 1);
        lawful(x, 111, 10, 3, 1, 2, 1);
        lawful(x, 22, 33, 2, 3, 1, 2);
        lawful(x, 987654, 123456, 20, 15, 7, 3);
        int[][] outside = {{-1, 0, 0, 0}, {1000000, 0, 0, 0}, {0, -1, 0, 0}, {0, 1000000, 0, 0}, {0, 0, -1, 0},
            {0, 0, 55, 0}, {0, 0, 0, -1}, {0, 0, 0, 3}};
        for (int[] a : outside) {
            due("laws outside", x.laws(a[0], a[1], a[2], a[3]), OUTSIDE);
        }
    }

    private static void lawful(BubbleHouse x, int costs, int worths, int breath, int most, int which, int sets) {
        String call = "laws(" + costs + ", " + worths + ", " + breath;
        due(call + ", 0)", x.laws(costs, worths, breath, 0), most);
        due(call + ", 1)", x.laws(costs, worths, breath, 1), which);
        due(call + ", 2)", x.laws(costs, worths, breath, 2), sets);
    }

    private static void power() {
        promise = 18;
        BubbleHouse x = three();
        powers(x, 4, 0, 0, UNKNOWN);
        x.dive(2, 7, 9);
        powers(x, 2, 2, 2, UNKNOWN);
        x.dive(3, 0, 50);
        powers(x, 0, 0, 0, 8);
        sit(x, "D^");
        powers(x, 2, 2, 2, UNKNOWN);
        x = new BubbleHouse();
        x.dive(0, 0, 5);
        x.dive(1, 0, 5);
        powers(x, 1, 1, UNKNOWN, UNKNOWN);
        x.dive(0, 0, 0);
        x.dive(1, 0, 0);
        powers(x, 0, 0, UNKNOWN, UNKNOWN);
        for (int m = 0; m < 7; m++) {
            x.dive(m, 0, 1);
        }
        for (int m = 0; m < 7; m++) {
            due("power of seven alike", x.power(m), 20);
        }
        for (int m : NOT_MEMBERS) {
            due("power(" + m + ")", x.power(m), UNKNOWN);
        }
    }

    private static void powers(BubbleHouse x, int... due) {
        for (int m = 0; m < due.length; m++) {
            due("power(" + m + ")", x.power(m), due[m]);
        }
    }

    private static void held() {
        promise = 19;
        BubbleHouse x = three();
        ankles(x, 3, 1, 1);
        ankles(x, 1, 1, 1);
        ankles(x, 2, 0, 0);
        ankles(x, 0, 0, 0);
        ankles(x, 7, 1, 1);
        due("held(8)", x.held(8, 0), UNKNOWN);
        x.dive(2, 7, 9);
        ankles(x, 7, 2, 3);
        ankles(x, 5, 1, 1);
        ankles(x, 6, 1, 2);
        x.dive(3, 0, 50);
        ankles(x, 15, 1, 8);
        ankles(x, 7, 0, 0);
        ankles(x, 9, 1, 8);
        sit(x, "D^");
        due("who is above", x.held(9, 0), UNKNOWN);
        ankles(x, 7, 2, 3);
        due("held(128)", x.held(128, 0), UNKNOWN);
        due("held(-1)", x.held(-1, 0), UNKNOWN);
        due("held(least)", x.held(Integer.MIN_VALUE, 0), UNKNOWN);
        due("unknown ahead of outside", x.held(128, 2), UNKNOWN);
        due("what 2", x.held(1, 2), OUTSIDE);
        due("what -1", x.held(1, -1), OUTSIDE);
        x = new BubbleHouse();
        x.dive(5, 0, 4);
        x.dive(6, 0, 4);
        ankles(x, 96, 1, 32);
        ankles(x, 64, 0, 0);
    }

    private static void ankles(BubbleHouse x, int set, int few, int which) {
        due("held(" + set + ", 0)", x.held(set, 0), few);
        due("held(" + set + ", 1)", x.held(set, 1), which);
    }

    private static void hours() {
        promise = 20;
        BubbleHouse x = new BubbleHouse();
        due("at first", x.hours(5, 0), 16777215);
        due("then", x.hours(5, 16777215), 0);
        due("of another law", x.hours(0, 5), 16777215);
        due("then", x.hours(0, 6), 5);
        due("told", x.told(30), 6);
        String before = all(x);
        for (int law : new int[] {-1, 6, Integer.MIN_VALUE, Integer.MAX_VALUE}) {
            due("hours(" + law + ")", x.hours(law, 0), UNKNOWN);
            due("unknown ahead of outside", x.hours(law, -1), UNKNOWN);
        }
        due("bits -1", x.hours(0, -1), OUTSIDE);
        due("bits too many", x.hours(0, 16777216), OUTSIDE);
        same("refused hours", before, x);
    }

    private static void orders() {
        promise = 21;
        BubbleHouse x = new BubbleHouse();
        int orders = 1;
        for (int n = 1; n <= 6; n++) {
            orders *= n;
            due("all of " + n, x.orders(n, 20), orders);
        }
        x.hours(0, 32);
        due("5, 6, 7", x.orders(3, 5), 2);
        due("4, 5, 6", x.orders(3, 4), 2);
        due("6, 7, 8", x.orders(3, 6), 0);
        due("23, 0, 1", x.orders(3, 23), 0);
        due("6 on alone", x.orders(1, 6), 0);
        x.hours(0, 1);
        due("behind 23 comes 0", x.orders(2, 23), 1);
        due("hour 0", x.orders(2, 0), 1);
        x.hours(1, 1 << 23);
        due("one order alone", x.orders(2, 23), 1);
        due("not from 22", x.orders(2, 22), 0);
        x.hours(5, 0);
        due("a law that has none", x.orders(6, 20), 0);
        due("it does not count for fewer", x.orders(5, 20), 6);
        int[][] outside = {{0, 0}, {7, 0}, {-1, 0}, {1, -1}, {1, 24}, {32, 0}};
        for (int[] a : outside) {
            due("orders outside", x.orders(a[0], a[1]), OUTSIDE);
        }
    }

    private static void seen() {
        promise = 22;
        BubbleHouse x = new BubbleHouse();
        int[][] outside = {{0, 0, 0}, {10, 0, 0}, {1, -1, 0}, {1, 1000, 0}, {1, 0, -1}, {1, 0, 10}};
        for (int[] a : outside) {
            due("seen outside", x.seen(a[0], a[1], a[2]), OUTSIDE);
        }
        due("none yet", x.told(6), 0);
        int[][] sights = {{1, 0, 0}, {9, 999, 9}, {1, 0, 0}, {2, 2, 2}, {3, 3, 3}, {4, 4, 4}, {5, 5, 5}, {6, 6, 6}};
        for (int i = 0; i < 8; i++) {
            due("sight", x.seen(sights[i][0], sights[i][1], sights[i][2]), i + 1);
        }
        due("a ninth", x.seen(1, 0, 0), FULL);
        due("outside ahead of full", x.seen(0, 0, 0), OUTSIDE);
        due("eight", x.told(6), 8);
    }

    private static void forget() {
        promise = 23;
        BubbleHouse x = three();
        due("none", x.forget(), 0);
        x.seen(1, 0, 0);
        x.seen(1, 0, 0);
        due("nobody", x.whose(), 0);
        due("two", x.forget(), 2);
        due("gone", x.told(6), 0);
        due("all again", x.whose(), 7);
        for (int i = 1; i <= 8; i++) {
            due("room again", x.seen(3, 4, 2), i);
        }
        due("only the new ones tell", x.whose(), 3);
    }

    private static void whose() {
        promise = 24;
        BubbleHouse x = new BubbleHouse();
        due("nobody there", x.whose(), 0);
        x = three();
        due("all", x.whose(), 7);
        x.seen(3, 4, 2);
        due("minute 0", x.whose(), 3);
        x.seen(3, 999, 2);
        due("later", x.whose(), 3);
        x.seen(3, 3, 2);
        due("before minute 0", x.whose(), 0);
        x.forget();
        x.seen(9, 2, 7);
        due("breath does not count", x.whose(), 4);
        sit(x, "C^");
        due("nor who is above", x.whose(), 4);
        x.set(1, 5);
        due("the tide as now", x.whose(), 4);
        x.set(1, 3);
        due("the tide as now", x.whose(), 0);
        x.set(0, 45);
        x.set(0, 40);
        due("deep as now", x.whose(), 0);
        x.forget();
        x.seen(9, 5, 2);
        due("40 by 9 is 5", x.whose(), 4);
        x.dive(3, 7, 1);
        due("places as now", x.whose(), 12);
        x.leave(2);
        due("who is there", x.whose(), 8);
        x.seen(8, 5, 2);
        due("both sights", x.whose(), 8);
        x.seen(8, 5, 3);
        due("all sights by one", x.whose(), 0);
    }

    private static void alike() {
        promise = 25;
        BubbleHouse x = new BubbleHouse();
        due("nobody", x.alike(-1), 0);
        due("nobody", x.alike(0), NONE);
        x = three();
        pairs(x, 1);
        x.dive(6, 7, 50);
        x.dive(4, 2, 50);
        pairs(x, 1, 4, 14, 26);
        sit(x, "B^");
        pairs(x, 1, 4, 14, 26);
        x.seen(3, 5, 7);
        pairs(x, 26);
        x.seen(3, 5, 2);
        pairs(x);
        x.forget();
        for (int m = 0; m < 7; m++) {
            x.dive(m, 4, 0);
        }
        pairs(x, 1, 2, 3, 4, 5, 6, 12, 13, 14, 15, 16, 23, 24, 25, 26, 34, 35, 36, 45, 46, 56);
        x.leave(0);
        due("who has left", x.alike(-1), 15);
    }

    private static void pairs(BubbleHouse x, int... due) {
        due("alike(-1)", x.alike(-1), due.length);
        for (int i = 0; i < due.length; i++) {
            due("alike(" + i + ")", x.alike(i), due[i]);
        }
        for (int i : new int[] {due.length, due.length + 1, -2, -3, Integer.MIN_VALUE, Integer.MAX_VALUE}) {
            due("alike(" + i + ")", x.alike(i), NONE);
        }
    }

    private static void filibuster() {
        promise = 26;
        BubbleHouse x = three();
        turns(x, 3, 3, 1, NONE, NONE);
        turns(x, 1, 3, 0, 0, 1);
        turns(x, 3, 2, 0, 0, 1);
        turns(x, 4, 9, 1, NONE, NONE);
        turns(x, 3, 9, 0, 0, 4);
        turns(x, 2, 9, 0, 1, 5);
        turns(x, 2, 4, 1, NONE, NONE);
        turns(x, 0, 1, 1, NONE, NONE);
        turns(x, 7, 1, 1, NONE, NONE);
        turns(x, 5, 1, 0, 0, 1);
        String before = all(x);
        x.filibuster(3, 9, 2);
        same("filibuster", before, x);
        x.dive(0, 0, 1);
        x.dive(1, 0, 6);
        turns(x, 3, 9, 0, 1, 5);
        x.dive(0, 0, 4);
        x.dive(1, 0, 3);
        turns(x, 3, 4, 0, 0, 1);
        x.dive(0, 0, 5);
        turns(x, 3, 4, 0, 0, 2);
        x.dive(6, 0, 99);
        turns(x, 64, 9, 0, 6, 9);
        sit(x, "G^");
        due("who is above", x.filibuster(64, 1, 0), UNKNOWN);
        due("not there", x.filibuster(8, 1, 0), UNKNOWN);
        due("128", x.filibuster(128, 1, 0), UNKNOWN);
        due("-1", x.filibuster(-1, 1, 0), UNKNOWN);
        due("unknown ahead of outside", x.filibuster(128, 0, 0), UNKNOWN);
        int[][] outside = {{0, 0}, {10, 0}, {-1, 0}, {1, -1}, {1, 3}};
        for (int[] a : outside) {
            due("filibuster outside", x.filibuster(3, a[0], a[1]), OUTSIDE);
        }
    }

    private static void turns(BubbleHouse x, int set, int k, int who, int member, int spent) {
        String call = "filibuster(" + set + ", " + k;
        due(call + ", 0)", x.filibuster(set, k, 0), who);
        due(call + ", 1)", x.filibuster(set, k, 1), member);
        due(call + ", 2)", x.filibuster(set, k, 2), spent);
    }

    private static void breaks() {
        promise = 27;
        BubbleHouse x = new BubbleHouse();
        parts(x, 5, 1, 5, 3, 2, 0, 1);
        parts(x, 2, 1, 5, 3, 2, 1, 2);
        parts(x, 5, 3, 10, 5, 1, 1, 1);
        parts(x, 9, 4, 10, 9, 1, 1, 1);
        parts(x, 9, 3, 10, 8, 1, 0, 1);
        parts(x, 9, 6, 3, 4135231, 1000000, 7047, 100000);
        parts(x, 9, 6, 0, 1, 1, 0, 1);
        parts(x, 1, 0, 0, 1, 1, 1, 1);
        parts(x, 1, 6, 7, 1, 1, 1, 1);
        parts(x, 2, 0, 10, 1, 1, 0, 1);
        parts(x, 3, 2, 1, 6, 5, 1, 100);
        parts(x, 2, 6, 1, 1468559, 1000000, 468559, 1000000);
        int[][] outside = {{0, 0, 0, 0, 0}, {10, 0, 0, 0, 0}, {1, -1, 0, 0, 0}, {1, 7, 0, 0, 0}, {1, 0, -1, 0, 0},
            {1, 0, 11, 0, 0}, {1, 0, 0, -1, 0}, {1, 0, 0, 2, 0}, {1, 0, 0, 0, -1}, {1, 0, 0, 0, 2}};
        for (int[] a : outside) {
            due("breaks outside", x.breaks(a[0], a[1], a[2], a[3], a[4]), LOST_OUTSIDE);
        }
    }

    private static void parts(BubbleHouse x, int size, int m, int t, long... due) {
        for (int i = 0; i < 4; i++) {
            String call = "breaks(" + size + ", " + m + ", " + t + ", " + i / 2 + ", " + i % 2 + ")";
            due(call, x.breaks(size, m, t, i / 2, i % 2), due[i]);
        }
    }

    private static void day() {
        promise = 28;
        BubbleHouse x = three();
        // seed 0: x = 74, a minute passes
        days(x, 0, 1, 0, 12, 2);
        // seed 3: x = 299, the tide is 7
        days(x, 3, 1, 0, 14, 3);
        // seed 2: x = 224, a minute; seed 6: x = 524, C would make a bubble of 9 and can not
        days(x, 2, 1, 0, 12, 2);
        days(x, 6, 1, 0, 14, 3);
        // seed 886: x = 66524 less 65537 = 987, the tide
        days(x, 886, 1, 0, 14, 3);
        // seed 874: x = 87, member 10 left over by 7 = D, who is not there
        days(x, 874, 1, 0, 14, 3);
        // seed 14: x = 1124, member 140 left over by 7 = A, of size 1 and 17 left over by 9 = 9
        days(x, 14, 1, 1, 5, 3);
        // seed 9999: x = 749999 less 11 times 65537 = 29092, member 3636 left over by 7 = D
        days(x, 9999, 1, 0, 14, 3);
        days(x, 9999, 99, 2, 0, 0);
        x.dive(0, 2, 8);
        days(x, 14, 1, 0, 13, 3);
        sit(x, "A1");
        days(x, 14, 1, 1, 12, 3);
        String before = all(x);
        x.day(77, 99, 0);
        same("a day", before, x);
        int[][] outside = {{-1, 1, 0}, {10000, 1, 0}, {0, 0, 0}, {0, 100, 0}, {0, 1, -1}, {0, 1, 3}};
        for (int[] a : outside) {
            due("day outside", x.day(a[0], a[1], a[2]), OUTSIDE);
        }
        daysOfMany();
    }

    private static void days(BubbleHouse x, int seed, int m, int bubbles, int breath, int below) {
        String call = "day(" + seed + ", " + m;
        due(call + ", 0)", x.day(seed, m, 0), bubbles);
        due(call + ", 1)", x.day(seed, m, 1), breath);
        due(call + ", 2)", x.day(seed, m, 2), below);
    }

    /** What a day does must be what the sitting of the acts that can be would do. */
    private static void daysOfMany() {
        for (int seed = 0; seed < 10000; seed += 97) {
            BubbleHouse x = many();
            BubbleHouse y = many();
            int m = 1 + seed % 99;
            int v = seed;
            for (int i = 0; i < m; i++) {
                v = (75 * v + 74) % 65537;
                String act = v % 8 <= 2 ? "." : v % 8 == 3 ? "~" + v / 8 % 10
                    : "" + (char) ('A' + v / 8 % 7) + (1 + v / 64 % 9);
                sit(y, act);
            }
            int breath = 0;
            for (int member = 0; member < 7; member++) {
                breath += (y.told(2) >> member & 1) == 1 ? y.told(20 + member) : 0;
            }
            days(x, seed, m, y.told(7), breath, Integer.bitCount(y.told(2)));
        }
    }

    private static BubbleHouse many() {
        BubbleHouse x = new BubbleHouse();
        for (int member = 0; member < 7; member++) {
            x.dive(member, member, 99 - 10 * member);
        }
        return x;
    }

    private static void image() {
        promise = 29;
        BubbleHouse x = three();
        due("image(0)", x.image(0), 1);
        x.dive(3, 3, 3);
        due("image(1)", x.image(1), 1);
        due("image(-1)", x.image(-1), OUTSIDE);
        due("image(2)", x.image(2), OUTSIDE);
        x.leave(0);
        x.restore(0);
        due("the first", x.told(1), 7);
        x.restore(1);
        due("the second", x.told(1), 15);
        due("image(0) anew", x.image(0), 1);
        x.leave(1);
        x.restore(0);
        due("the new one", x.told(1), 15);
    }

    private static void restore() {
        promise = 30;
        BubbleHouse x = three();
        due("not kept", x.restore(0), STATE);
        due("not kept", x.restore(1), STATE);
        due("restore(-1)", x.restore(-1), OUTSIDE);
        due("restore(2)", x.restore(2), OUTSIDE);
        x.hours(0, 78);
        x.hours(3, 77);
        x.seen(3, 4, 2);
        sit(x, "A1B2~4.");
        String kept = all(x);
        x.image(1);
        due("the other one is not kept", x.restore(0), STATE);
        x.hours(0, 2);
        x.hours(3, 1);
        x.forget();
        x.seen(1, 1, 1);
        x.seen(1, 1, 1);
        sit(x, "A1B1~2..B^");
        x.set(0, 33);
        x.dive(4, 4, 4);
        x.leave(2);
        write(x, "A1B");
        due("restore(1)", x.restore(1), 1);
        due("the pad stays", x.wipe(), 3);
        due("all else is as it was", all(x).equals(kept) ? 1 : 0, 1);
        x.close();
        x.hours(3, 2);
        x.seen(9, 9, 9);
        x.dive(0, 9, 99);
        due("once more", x.restore(1), 1);
        due("the image stays as it was kept", all(x).equals(kept) ? 1 : 0, 1);
        sit(x, "A1");
        due("goes on from there", x.told(7), 3);
    }

    private static void told() {
        promise = 31;
        BubbleHouse x = three();
        x.leave(1);
        x.dive(5, 8, 30);
        x.set(1, 6);
        x.set(0, 20);
        x.seen(1, 1, 1);
        x.seen(1, 1, 1);
        x.hours(4, 1234);
        sit(x, "F1F1F1.");
        write(x, "xy");
        int[] due = {2, 37, 33, 1, 20, 6, 2, 3, OUTSIDE, OUTSIDE, 2, OUTSIDE, 7, OUTSIDE, OUTSIDE, 8, OUTSIDE, OUTSIDE,
            OUTSIDE, OUTSIDE, 8, OUTSIDE, 0, OUTSIDE, OUTSIDE, 26, OUTSIDE, OUTSIDE, OUTSIDE, OUTSIDE, 16777215,
            16777215, 16777215, 16777215, 1234, 16777215, OUTSIDE, OUTSIDE};
        for (int what = 0; what < due.length; what++) {
            due("told(" + what + ")", x.told(what), due[what]);
        }
        due("told(-1)", x.told(-1), OUTSIDE);
        due("told(least)", x.told(Integer.MIN_VALUE), OUTSIDE);
        due("told(most)", x.told(Integer.MAX_VALUE), OUTSIDE);
        x.dive(6, 0, 0);
        due("told(16)", x.told(16), 0);
        due("told(26)", x.told(26), 0);
    }
}
