import java.util.Map;

/**
 * "Refused, and nothing changes: UNKNOWN, OUTSIDE, NOT, FULL: the first of these that fits": each refusal of each call,
 * on both sides of its bound, in its order, and with all that the object tells held against a twin's that was not asked.
 */
public final class RefusedTest {
    private static final int NONE = -1, UNKNOWN = -2, OUTSIDE = -3, NOT = -4, FULL = -5, MORE = 10000000;
    private static final int LEAST = Integer.MIN_VALUE, MOST = Integer.MAX_VALUE;

    private interface Call {
        int on(PoundBoys x);
    }

    private interface Maker {
        PoundBoys make();
    }

    private static final Maker EMPTY = PoundBoys::new;
    private static final Maker RICH = RefusedTest::rich;
    private static final Maker FULL_UP = RefusedTest::fullUp;

    public static void main(String[] args) {
        write();
        league();
        town();
        boy();
        as();
        give();
        balance();
        deal();
        ring();
        go();
        keepAndBack();
        later();
        withoutAndOwed();
        pays();
        gainers();
        weighAndScales();
        roadAndWho();
        count();
        whatCallsLeaveAlone();
        Check.end();
    }

    /** Four towns, five boys, something of each kind told, nothing full: boys 0 and 4 in the exchange, which does not close. */
    private static PoundBoys rich() {
        PoundBoys x = Check.told("league 4;town 0 0 2 2;town 1 1 3 0;town 2 2 1 1;want 0 1;want 1 0;slack 40;none",
            "plain 0 30 0 5;half 1 41 1 3;prodigy 2 20 2 1;fool 3 50 0 0;plain 1 22 1 4");
        x.give(0, 1);
        x.give(1, 0);
        Check.due("rich: deal()", 2, x.deal());
        x.go(2);
        x.keep(0);
        x.go(3);
        x.give(0, 0);
        x.give(4, 3);
        x.weigh(0, 0, 30);
        x.weigh(1, 0, 33);
        x.weigh(1, 4, 33);
        x.road(31, 0);
        x.road(22, 1);
        Check.write(x, "slack 7;light");
        return x;
    }

    /** Ten boys, an exchange of 8 (boys 9 down to 2), scales of 12, a road of 6, a text of 200 bytes, 990 years, both kept. */
    private static PoundBoys fullUp() {
        String five = "plain 0 9 0 0;plain 0 9 0 0;plain 0 9 0 0;plain 0 9 0 0;plain 0 9 0 0";
        PoundBoys x = Check.told("league 2;none", five, five);
        for (int i = 0; i < 10; i++) {
            x.go(99);
            x.keep(i & 1);
        }
        for (int boy = 9; boy >= 2; boy--) {
            x.give(boy, 1);
        }
        for (int i = 0; i < 12; i++) {
            x.weigh(i & 1, i % 5, 9);
        }
        for (int i = 0; i < 6; i++) {
            x.road(9, 0);
        }
        Check.write(x, "slack" + " ".repeat(194) + "5");
        return x;
    }

    /** The call answers this, and whatever the object tells is what a twin tells that was not asked. */
    private static void stays(String name, int answer, Maker maker, Call call) {
        PoundBoys x = maker.make();
        Check.due(name, answer, call.on(x));
        State.same("behind " + name, State.ofAll(maker.make()), State.ofAll(x));
    }

    private static void write() {
        for (int n : new int[] {0, -1, 9, LEAST, MOST}) {
            stays("write n " + n, OUTSIDE, RICH, x -> x.write(Check.packed("nnnnnnnn"), n));
            stays("write n " + n + " at 200 bytes", OUTSIDE, FULL_UP, x -> x.write(0, n));
        }
        for (int n = 1; n <= 8; n++) {
            int size = n;
            stays("write n " + n + " at 200 bytes", FULL, FULL_UP, x -> x.write(0, size));
            stays("write n " + n + " that ends above 200", FULL, () -> withBytes(201 - size), x -> x.write(0, size));
            Check.due("write n " + n + " that ends at 200", 200, withBytes(200 - size).write(0, size));
            Check.due("write n " + n + " at first", n, new PoundBoys().write(0, n));
        }
    }

    /** A text of so many bytes, 100 at least, that has no fault. */
    private static PoundBoys withBytes(int bytes) {
        PoundBoys x = new PoundBoys();
        Check.write(x, "slack" + " ".repeat(bytes - 7) + "56");
        Check.due("bytes", bytes, x.count(8));
        return x;
    }

    private static void league() {
        stays("league() of no text", NOT, EMPTY, PoundBoys::league);
        for (String text : new String[] {"free;", "slack 3;light;x", "league 5;slack 3;town 0 3 9 3;want 0 3;next 0 2;fool 4 9 9 9"}) {
            Maker faulty = () -> {
                PoundBoys x = rich();
                x.erase();
                Check.write(x, text);
                return x;
            };
            stays("league() of '" + text + "'", NOT, faulty, PoundBoys::league);
        }
    }

    private static void town() {
        for (int town : new int[] {-1, 4, LEAST, MOST}) {
            stays("town(" + town + ", 0)", UNKNOWN, RICH, x -> x.town(town, 0));
            stays("town(" + town + ", 7)", UNKNOWN, RICH, x -> x.town(town, 7));
        }
        for (int what : new int[] {-1, 7, LEAST, MOST}) {
            stays("town(3, " + what + ")", OUTSIDE, RICH, x -> x.town(3, what));
        }
        int[] last = {0, 1, 1, NONE, 0, MORE, 1};
        for (int what = 0; what < 7; what++) {
            int which = what;
            stays("town(3, " + what + ")", last[what], RICH, x -> x.town(3, which));
        }
    }

    private static void boy() {
        for (int boy : new int[] {-1, 5, LEAST, MOST}) {
            stays("boy(" + boy + ", 0)", UNKNOWN, RICH, x -> x.boy(boy, 0));
            stays("boy(" + boy + ", 6)", UNKNOWN, RICH, x -> x.boy(boy, 6));
        }
        for (int what : new int[] {-1, 6, LEAST, MOST}) {
            stays("boy(4, " + what + ")", OUTSIDE, RICH, x -> x.boy(4, what));
        }
        stays("boy(9, 0) of ten", 0, FULL_UP, x -> x.boy(9, 0));
        stays("boy(10, 0) of ten", UNKNOWN, FULL_UP, x -> x.boy(10, 0));
        stays("boy(0, 0) of none", UNKNOWN, EMPTY, x -> x.boy(0, 0));
        int[] last = {0, 1, 17, 1, 9, 51};
        for (int what = 0; what < 6; what++) {
            int which = what;
            stays("boy(4, " + what + ")", last[what], RICH, x -> x.boy(4, which));
        }
    }

    private static void as() {
        for (int boy : new int[] {-1, 5, LEAST, MOST}) {
            stays("as(" + boy + ", 0)", UNKNOWN, RICH, x -> x.as(boy, 0));
            stays("as(" + boy + ", 5)", UNKNOWN, RICH, x -> x.as(boy, 5));
        }
        for (int kind : new int[] {-1, 5, LEAST, MOST}) {
            stays("as(0, " + kind + ")", OUTSIDE, RICH, x -> x.as(0, kind));
        }
        stays("as(0, 4)", NOT, RICH, x -> x.as(0, 4));
        stays("as(2, 4)", 20, RICH, x -> x.as(2, 4));
        stays("as(2, 1)", NOT, RICH, x -> x.as(2, 1));
        stays("as(1, 0)", 23, RICH, x -> x.as(1, 0));
    }

    private static void give() {
        for (int number : new int[] {-1, LEAST, MOST}) {
            stays("give(" + number + ", 0)", UNKNOWN, RICH, x -> x.give(number, 0));
            stays("give(1, " + number + ")", UNKNOWN, RICH, x -> x.give(1, number));
            stays("give(0, " + number + "), who is in it", UNKNOWN, RICH, x -> x.give(0, number));
            stays("give(0, " + number + ") when full", UNKNOWN, FULL_UP, x -> x.give(0, number));
        }
        stays("give(5, 0)", UNKNOWN, RICH, x -> x.give(5, 0));
        stays("give(1, 4)", UNKNOWN, RICH, x -> x.give(1, 4));
        stays("give(3, 3): his own town", OUTSIDE, RICH, x -> x.give(3, 3));
        stays("give(0, 1): his own town, and he is in it", OUTSIDE, RICH, x -> x.give(0, 1));
        stays("give(0, 0): he is in it", NOT, RICH, x -> x.give(0, 0));
        stays("give(4, 2): he is in it", NOT, RICH, x -> x.give(4, 2));
        stays("give(0, 0): his own town, when full", OUTSIDE, FULL_UP, x -> x.give(0, 0));
        stays("give(9, 0): his own town, in it, when full", OUTSIDE, FULL_UP, x -> x.give(9, 0));
        stays("give(9, 1): the first one in it, when full", NOT, FULL_UP, x -> x.give(9, 1));
        stays("give(2, 1): the last one in it, when full", NOT, FULL_UP, x -> x.give(2, 1));
        stays("give(1, 1): a ninth", FULL, FULL_UP, x -> x.give(1, 1));
        PoundBoys x = fullUp();
        x.drop();
        for (int boy = 0; boy < 8; boy++) {
            Check.due("give " + (boy + 1), boy + 1, x.give(boy, 1));
        }
        Check.due("give 9", FULL, x.give(8, 1));
    }

    private static void balance() {
        for (int town : new int[] {-1, 4, LEAST, MOST}) {
            stays("balance(" + town + ")", UNKNOWN, RICH, x -> x.balance(town));
        }
        stays("balance(3)", MORE + 51, RICH, x -> x.balance(3));
        stays("balance(2)", MORE, RICH, x -> x.balance(2));
    }

    private static void deal() {
        stays("judge()", 0, RICH, PoundBoys::judge);
        stays("deal() that does not close", NOT, RICH, PoundBoys::deal);
        stays("deal() of 8 that does not close", NOT, FULL_UP, PoundBoys::deal);
        stays("deal() of none", 0, EMPTY, PoundBoys::deal);
    }

    private static void ring() {
        for (int what : new int[] {-1, 2, 9, 16, LEAST, MOST}) {
            stays("ring(" + what + ")", OUTSIDE, RICH, x -> x.ring(what));
            stays("ring(" + what + ") where there is none", OUTSIDE, EMPTY, x -> x.ring(what));
        }
        for (int what : new int[] {0, 1, 10, 15}) {
            stays("ring(" + what + ") where there is none", NONE, EMPTY, x -> x.ring(what));
        }
        int[] told = {10, 1, 11, 0, 1, 2, 12, NONE, 15, NONE};
        Maker ring = () -> Check.told("want 0 1;want 1 0;town 0 0 3 1;plain 1 25 1 0;plain 0 5 0 0");
        for (int i = 0; i < told.length; i += 2) {
            int what = told[i];
            stays("ring(" + what + ") of two", told[i + 1], ring, x -> x.ring(what));
        }
        stays("ring(0) of two", 10, ring, x -> x.ring(0));
    }

    private static void go() {
        for (int n : new int[] {0, -1, 100, LEAST, MOST}) {
            stays("go(" + n + ")", OUTSIDE, RICH, x -> x.go(n));
            stays("go(" + n + ") at 990", OUTSIDE, FULL_UP, x -> x.go(n));
        }
        stays("go(10) at 990", FULL, FULL_UP, x -> x.go(10));
        stays("go(99) at 990", FULL, FULL_UP, x -> x.go(99));
        Maker last = () -> {
            PoundBoys x = fullUp();
            Check.due("go(9) at 990", 999, x.go(9));
            return x;
        };
        stays("go(1) at 999", FULL, last, x -> x.go(1));
        stays("go(99) at 999", FULL, last, x -> x.go(99));
        Check.due("go(1)", 6, rich().go(1));
        Check.due("go(99)", 104, rich().go(99));
    }

    private static void keepAndBack() {
        for (int k : new int[] {-1, 2, LEAST, MOST}) {
            stays("keep(" + k + ")", UNKNOWN, RICH, x -> x.keep(k));
            stays("back(" + k + ")", UNKNOWN, RICH, x -> x.back(k));
            stays("back(" + k + ") where nothing was kept", UNKNOWN, EMPTY, x -> x.back(k));
        }
        stays("back(1), which was not kept", NOT, RICH, x -> x.back(1));
        stays("back(0) at first", NOT, EMPTY, x -> x.back(0));
        stays("back(1) at first", NOT, EMPTY, x -> x.back(1));
        Maker keptAheadOfAText = () -> {
            PoundBoys x = fullUp();
            x.erase();
            Check.tell(x, "slack 1");
            x.give(0, 1);
            return x;
        };
        stays("back(0), kept ahead of the last text", NOT, keptAheadOfAText, x -> x.back(0));
        stays("back(1), kept ahead of the last text", NOT, keptAheadOfAText, x -> x.back(1));
    }

    private static void later() {
        for (int boy : new int[] {-1, 5, LEAST, MOST}) {
            stays("later(" + boy + ", 0, 0)", UNKNOWN, RICH, x -> x.later(boy, 0, 0));
            stays("later(" + boy + ", 100, 4)", UNKNOWN, RICH, x -> x.later(boy, 100, 4));
        }
        for (int number : new int[] {-1, 100, LEAST, MOST}) {
            stays("later(4, " + number + ", 0)", OUTSIDE, RICH, x -> x.later(4, number, 0));
            stays("later(4, 0, " + number + ")", OUTSIDE, RICH, x -> x.later(4, 0, number));
        }
        stays("later(4, 0, 4)", OUTSIDE, RICH, x -> x.later(4, 0, 4));
        int[] now = {1, 17, 1, 9};
        int[] then = {1, 1, 1, 9};
        for (int what = 0; what < 4; what++) {
            int which = what;
            stays("later(4, 0, " + what + ")", now[what], RICH, x -> x.later(4, 0, which));
            stays("later(4, 99, " + what + ")", then[what], RICH, x -> x.later(4, 99, which));
        }
        stays("later(9, 99, 1) at 990", 9, FULL_UP, x -> x.later(9, 99, 1));
    }

    private static void withoutAndOwed() {
        for (int t : new int[] {-1, 100, LEAST, MOST}) {
            stays("without(" + t + ")", OUTSIDE, RICH, x -> x.without(t));
            stays("owed(3, " + t + ")", OUTSIDE, RICH, x -> x.owed(3, t));
        }
        for (int town : new int[] {-1, 4, LEAST, MOST}) {
            stays("owed(" + town + ", 0)", UNKNOWN, RICH, x -> x.owed(town, 0));
            stays("owed(" + town + ", 100)", UNKNOWN, RICH, x -> x.owed(town, 100));
        }
        for (int t : new int[] {0, 99}) {
            stays("without(" + t + ")", 0, RICH, x -> x.without(t));
            stays("without(" + t + ") at 990", 2, FULL_UP, x -> x.without(t));
            stays("owed(0, " + t + ")", MORE, RICH, x -> x.owed(0, t));
        }
    }

    private static void pays() {
        for (int town : new int[] {-1, 4, LEAST, MOST}) {
            stays("pays(" + town + ", 1, 0, 0)", UNKNOWN, RICH, x -> x.pays(town, 1, 0, 0));
            stays("pays(" + town + ", 0, 100, 2)", UNKNOWN, RICH, x -> x.pays(town, 0, 100, 2));
        }
        for (int number : new int[] {-1, 100, LEAST, MOST}) {
            stays("pays(1, " + number + ", 0, 0)", OUTSIDE, RICH, x -> x.pays(1, number, 0, 0));
            stays("pays(1, 1, " + number + ", 0)", OUTSIDE, RICH, x -> x.pays(1, 1, number, 0));
            stays("pays(1, 1, 0, " + number + ")", OUTSIDE, RICH, x -> x.pays(1, 1, 0, number));
        }
        stays("pays(1, 0, 0, 0)", OUTSIDE, RICH, x -> x.pays(1, 0, 0, 0));
        stays("pays(1, 10, 0, 0)", OUTSIDE, RICH, x -> x.pays(1, 10, 0, 0));
        stays("pays(1, 1, 0, 2)", OUTSIDE, RICH, x -> x.pays(1, 1, 0, 2));
        stays("pays(1, 1, 0, 0)", 3, RICH, x -> x.pays(1, 1, 0, 0));
        stays("pays(1, 1, 0, 1)", MORE + (27 + 19) * 3, RICH, x -> x.pays(1, 1, 0, 1));
        stays("pays(1, 9, 99, 0)", 0, RICH, x -> x.pays(1, 9, 99, 0));
        stays("pays(1, 9, 99, 1)", MORE + (16 + 8) * 3, RICH, x -> x.pays(1, 9, 99, 1));
    }

    private static void gainers() {
        for (int town : new int[] {-1, 4, LEAST, MOST}) {
            stays("gainers(" + town + ", 1, 1)", UNKNOWN, RICH, x -> x.gainers(town, 1, 1));
            stays("gainers(" + town + ", 0, 0)", UNKNOWN, RICH, x -> x.gainers(town, 0, 0));
        }
        for (int number : new int[] {0, -1, 100, LEAST, MOST}) {
            stays("gainers(3, " + number + ", 1)", OUTSIDE, RICH, x -> x.gainers(3, number, 1));
            stays("gainers(3, 1, " + number + ")", OUTSIDE, RICH, x -> x.gainers(3, 1, number));
        }
        stays("gainers(3, 10, 1)", OUTSIDE, RICH, x -> x.gainers(3, 10, 1));
        stays("gainers(3, 9, 1) where nobody goes", 0, RICH, x -> x.gainers(3, 9, 1));
        Maker two = () -> Check.told("league 2;town 0 0 5 1;plain 0 10 0 0");
        stays("gainers(0, 1, 1)", 1, two, x -> x.gainers(0, 1, 1));
        stays("gainers(0, 9, 99)", 2, two, x -> x.gainers(0, 9, 99));
    }

    private static void weighAndScales() {
        for (int number : new int[] {-1, LEAST, MOST}) {
            stays("weigh(" + number + ", 0, 0)", UNKNOWN, RICH, x -> x.weigh(number, 0, 0));
            stays("weigh(0, " + number + ", 0)", UNKNOWN, RICH, x -> x.weigh(0, number, 0));
            stays("weigh(0, 0, " + number + ")", OUTSIDE, RICH, x -> x.weigh(0, 0, number));
            stays("weigh(" + number + ", 0, 200) when full", UNKNOWN, FULL_UP, x -> x.weigh(number, 0, 200));
            stays("weigh(0, 0, " + number + ") when full", OUTSIDE, FULL_UP, x -> x.weigh(0, 0, number));
            stays("scales(" + number + ")", OUTSIDE, RICH, x -> x.scales(number));
        }
        stays("weigh(4, 0, 0)", UNKNOWN, RICH, x -> x.weigh(4, 0, 0));
        stays("weigh(0, 5, 0)", UNKNOWN, RICH, x -> x.weigh(0, 5, 0));
        stays("weigh(4, 0, 200)", UNKNOWN, RICH, x -> x.weigh(4, 0, 200));
        stays("weigh(0, 5, 200)", UNKNOWN, RICH, x -> x.weigh(0, 5, 200));
        stays("weigh(0, 0, 200)", OUTSIDE, RICH, x -> x.weigh(0, 0, 200));
        stays("weigh(0, 0, 200) when full", OUTSIDE, FULL_UP, x -> x.weigh(0, 0, 200));
        stays("weigh a 13th", FULL, FULL_UP, x -> x.weigh(0, 0, 9));
        stays("weigh a 13th", FULL, FULL_UP, x -> x.weigh(1, 9, 199));
        stays("scales(2)", OUTSIDE, RICH, x -> x.scales(2));
        stays("scales(0)", 3, RICH, x -> x.scales(0));
        stays("scales(1)", 0, RICH, x -> x.scales(1));
        Check.due("weigh(3, 4, 199)", 4, rich().weigh(3, 4, 199));
        Check.due("weigh(0, 0, 0)", 4, rich().weigh(0, 0, 0));
    }

    private static void roadAndWho() {
        for (int number : new int[] {0, -1, 100, LEAST, MOST}) {
            stays("road(" + number + ", 0)", OUTSIDE, RICH, x -> x.road(number, 0));
            stays("road(" + number + ", 0) when full", OUTSIDE, FULL_UP, x -> x.road(number, 0));
        }
        for (int number : new int[] {-1, 4, LEAST, MOST}) {
            stays("road(1, " + number + ")", OUTSIDE, RICH, x -> x.road(1, number));
            stays("road(1, " + number + ") when full", OUTSIDE, FULL_UP, x -> x.road(1, number));
        }
        stays("road of a 7th", FULL, FULL_UP, x -> x.road(9, 0));
        stays("road of a 7th", FULL, FULL_UP, x -> x.road(99, 3));
        for (int i : new int[] {-2, 2, LEAST, MOST}) {
            stays("who(" + i + ") of two", OUTSIDE, RICH, x -> x.who(i));
        }
        stays("who(6) of six", OUTSIDE, FULL_UP, x -> x.who(6));
        stays("who(5) of six", 1023, FULL_UP, x -> x.who(5));
        stays("who(0) of six", 1023, FULL_UP, x -> x.who(0));
        stays("who(NONE) of six", 10 * 9 * 8 * 7 * 6 * 5, FULL_UP, x -> x.who(NONE));
        stays("who(0) of an empty road", OUTSIDE, EMPTY, x -> x.who(0));
        stays("who(NONE) of an empty road", 1, EMPTY, x -> x.who(NONE));
        stays("who(-2) of an empty road", OUTSIDE, EMPTY, x -> x.who(-2));
        for (int w : new int[] {1, 99}) {
            Check.due("road(" + w + ", 0)", 3, rich().road(w, 0));
            Check.due("road(" + w + ", 3)", 3, rich().road(w, 3));
        }
    }

    private static void count() {
        for (int what : new int[] {-1, 9, LEAST, MOST}) {
            stays("count(" + what + ")", OUTSIDE, RICH, x -> x.count(what));
        }
        int[] rich = {4, 5, 3, 40, 2, 5, 3, 2, 13};
        int[] full = {2, 10, 3, 0, 8, 990, 12, 6, 200};
        for (int what = 0; what < 9; what++) {
            int which = what;
            stays("rich: count(" + what + ")", rich[what], RICH, x -> x.count(which));
            stays("full: count(" + what + ")", full[what], FULL_UP, x -> x.count(which));
        }
    }

    /** The call answers this, and the object tells the same as its twin, but for what begins so. */
    private static void changes(String name, int answer, Call call, String... what) {
        PoundBoys x = rich();
        Check.due(name, answer, call.on(x));
        Map<String, Integer> twin = State.ofAll(rich());
        State.same("behind " + name, twin, State.ofAll(x), what);
    }

    private static void whatCallsLeaveAlone() {
        changes("write", 18, x -> x.write(Check.packed(";none"), 5), "count(8)", "league");
        changes("erase", 13, PoundBoys::erase, "count(8)", "fault", "league");
        changes("give", 3, x -> x.give(1, 3), "count(4)", "balance", "judge");
        changes("drop", 2, PoundBoys::drop, "count(4)", "balance", "judge");
        changes("keep(1)", 5, x -> x.keep(1), "back(1)");
        changes("keep(0)", 5, x -> x.keep(0), "back(");
        changes("weigh", 4, x -> x.weigh(2, 3, 9), "count(6)", "scales");
        changes("forget", 3, PoundBoys::forget, "count(6)", "scales");
        changes("road", 3, x -> x.road(9, 3), "count(7)", "who");
        changes("arrive", 2, PoundBoys::arrive, "count(7)", "who");
        String[] ofTheLeague = {"count(4)", "count(5)", "balance", "judge", "boy", "town", "ring", "who"};
        changes("go", 6, x -> x.go(1), ofTheLeague);
        changes("back", 2, x -> x.back(0), ofTheLeague);
    }
}
