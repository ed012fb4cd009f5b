/** Promises 18 to 22: what is foretold, and that nothing changes by it. */
public final class ForetoldTest {
    private static final int UNKNOWN = -2, OUTSIDE = -3, MORE = 10000000;

    private static final String TOWNS = "league 4;town 0 0 3 2;town 1 1 1 0;town 2 2 5 1;town 3 3 2 3;next 3 1";
    private static final String BOYS =
        "plain 0 33 0 4;plain 1 98 1 6;fool 2 20 2 1;half 3 75 0 4;prodigy 0 44 3 3;half 1 12 2 9;plain 3 2 0 0";

    public static void main(String[] args) {
        foretoldIsWhatComes();
        later();
        without();
        owed();
        pays();
        paysEdges();
        gainers();
        gainersGoByLess();
        Check.end();
    }

    private static void due(String call, long want, long got) {
        Check.due(call, want, got);
    }

    private static void foretoldIsWhatComes() {
        for (String law : new String[] {"heavy", "light", "least", "none"}) {
            for (int t : new int[] {0, 1, 2, 7, 50, 99}) {
                PoundBoys x = Check.told(TOWNS, BOYS, law);
                x.go(3);
                PoundBoys gone = Check.told(TOWNS, BOYS, law);
                gone.go(3);
                if (t > 0) {
                    gone.go(t);
                }
                compare(law + ", " + t + ": ", x, gone, t);
                due(law + ": no year went", 3, x.count(5));
                compare(law + ", nothing changed: ", x, x, 0);
            }
        }
    }

    private static void compare(String when, PoundBoys x, PoundBoys gone, int t) {
        for (int boy = 0; boy < 7; boy++) {
            for (int what = 0; what < 4; what++) {
                due(when + "later(" + boy + ", " + what + ")", gone.boy(boy, what + 1), x.later(boy, t, what));
            }
        }
        int bits = 0;
        for (int town = 0; town < 4; town++) {
            due(when + "owed(" + town + ")", gone.town(town, 5), x.owed(town, t));
            bits |= gone.town(town, 6) == 0 ? 1 << town : 0;
        }
        due(when + "without", bits, x.without(t));
    }

    private static void later() {
        PoundBoys x = Check.told(TOWNS, BOYS);
        due("later(0, 1, 0)", 1, x.later(0, 1, 0));
        due("later(0, 1, 1)", 34, x.later(0, 1, 1));
        due("later(0, 1, 2)", 0, x.later(0, 1, 2));
        due("later(0, 1, 3)", 5, x.later(0, 1, 3));
        due("later(7, 0, 0)", UNKNOWN, x.later(7, 0, 0));
        due("later(-1, 0, 0)", UNKNOWN, x.later(-1, 0, 0));
        due("later(7, 100, 4)", UNKNOWN, x.later(7, 100, 4));
        due("later(6, 99, 0)", x.later(6, 99, 0) & 3, x.later(6, 99, 0));
        due("later(6, 100, 0)", OUTSIDE, x.later(6, 100, 0));
        due("later(6, -1, 0)", OUTSIDE, x.later(6, -1, 0));
        due("later(6, 0, 4)", OUTSIDE, x.later(6, 0, 4));
        due("later(6, 0, -1)", OUTSIDE, x.later(6, 0, -1));
        due("later(0, most, 0)", OUTSIDE, x.later(0, Integer.MAX_VALUE, 0));
        x.give(0, 1);
        x.later(0, 9, 0);
        due("the exchange stays", 1, x.count(4));
    }

    private static void without() {
        PoundBoys x = Check.told("league 6;plain 2 9 0 0;prodigy 4 9 0 0");
        due("without(0)", 0b101011, x.without(0));
        due("without(1)", 0b100111, x.without(1));
        due("without(2)", 0b101111, x.without(2));
        due("without(99)", 0b001111, x.without(99));
        due("without(100)", OUTSIDE, x.without(100));
        due("without(-1)", OUTSIDE, x.without(-1));
        due("without(least)", OUTSIDE, x.without(Integer.MIN_VALUE));
        Check.tell(x, "free");
        due("without any boys", 63, x.without(5));
        Check.tell(x, "league 2");
        due("two towns", 3, x.without(5));
    }

    private static void owed() {
        PoundBoys x = Check.told("league 2;town 0 0 2 1;plain 0 10 0 0");
        int[] first = {0, 20, 10, 30, 20};
        for (int t = 0; t < first.length; t++) {
            due("owed(0, " + t + ")", MORE + first[t], x.owed(0, t));
            due("owed(1, " + t + ")", MORE - first[t], x.owed(1, t));
        }
        due("owed(0, 99)", MORE + 20 + 49 * 10, x.owed(0, 99));
        due("owed(2, 0)", UNKNOWN, x.owed(2, 0));
        due("owed(-1, 0)", UNKNOWN, x.owed(-1, 0));
        due("owed(2, 100)", UNKNOWN, x.owed(2, 100));
        due("owed(1, 100)", OUTSIDE, x.owed(1, 100));
        due("owed(1, -1)", OUTSIDE, x.owed(1, -1));
        x.go(1);
        due("owed goes on from what is owed", MORE + 10, x.owed(0, 1));
    }

    private static void paysIs(PoundBoys x, int town, int t, int p, int food, int gain) {
        String call = "pays(" + town + ", " + t + ", " + p + ", ";
        due(call + "0)", food, x.pays(town, t, p, 0));
        due(call + "1)", MORE + gain, x.pays(town, t, p, 1));
    }

    private static void pays() {
        PoundBoys x = Check.told("town 0 0 5 1;plain 0 20 0 0;half 0 31 0 0;prodigy 1 90 0 0;fool 1 97 0 0");
        paysIs(x, 0, 1, 0, 3, (22 + 16) * 5);
        paysIs(x, 0, 2, 1, 3, (24 + 17) * 5 - 12);
        paysIs(x, 0, 2, 50, 0, (18 + 14) * 5);
        paysIs(x, 0, 9, 4, 0, (11 + 11) * 5);
        paysIs(x, 0, 9, 3, 3, (38 + 24) * 5 - 3 * 3 * 2 * 9);
        paysIs(x, 1, 9, 0, 2, 198);
        paysIs(x, 1, 3, 0, 3, 96 + 99);
        paysIs(x, 2, 9, 99, 0, 0);
        due("nothing changes", 20, x.boy(0, 2));
        due("food stays", 1, x.town(0, 2));
        x.go(1);
        paysIs(x, 1, 1, 0, 3, 92 + 33 / 2);
    }

    private static void paysEdges() {
        PoundBoys x = Check.told("plain 0 1 0 0;plain 1 99 0 0;plain 2 10 0 0");
        paysIs(x, 0, 9, 2, 0, 1);
        paysIs(x, 0, 9, 0, 3, 19);
        paysIs(x, 1, 9, 0, 1, 99);
        paysIs(x, 1, 9, 1, 0, 90);
        paysIs(x, 2, 4, 1, 0, 6);
        due("pays(3, 1, 0, 0)", UNKNOWN, x.pays(3, 1, 0, 0));
        due("pays(-1, 1, 0, 0)", UNKNOWN, x.pays(-1, 1, 0, 0));
        due("pays(3, 0, 100, 2)", UNKNOWN, x.pays(3, 0, 100, 2));
        due("pays(0, 0, 0, 0)", OUTSIDE, x.pays(0, 0, 0, 0));
        due("pays(0, 10, 0, 0)", OUTSIDE, x.pays(0, 10, 0, 0));
        due("pays(0, 1, -1, 0)", OUTSIDE, x.pays(0, 1, -1, 0));
        due("pays(0, 1, 100, 0)", OUTSIDE, x.pays(0, 1, 100, 0));
        due("pays(0, 1, 99, 0)", 0, x.pays(0, 1, 99, 0));
        due("pays(0, 1, 0, 2)", OUTSIDE, x.pays(0, 1, 0, 2));
        due("pays(0, 1, 0, -1)", OUTSIDE, x.pays(0, 1, 0, -1));
    }

    private static void gainers() {
        PoundBoys x = Check.told("league 4;plain 0 10 0 0;plain 2 10 0 0");
        due("gainers(0, 1, 1): the same", 0, x.gainers(0, 1, 1));
        due("gainers(0, 2, 1)", 2, x.gainers(0, 2, 1));
        due("gainers(0, 9, 2)", 2, x.gainers(0, 9, 2));
        due("gainers(1, 2, 1): sends nobody yet", 0, x.gainers(1, 2, 1));
        due("gainers(1, 2, 2)", 4, x.gainers(1, 2, 2));
        due("rate stays", 1, x.town(1, 1));
        due("no year went", 0, x.count(5));
        due("gainers(4, 1, 1)", UNKNOWN, x.gainers(4, 1, 1));
        due("gainers(-1, 1, 1)", UNKNOWN, x.gainers(-1, 1, 1));
        due("gainers(4, 0, 0)", UNKNOWN, x.gainers(4, 0, 0));
        due("gainers(0, 0, 1)", OUTSIDE, x.gainers(0, 0, 1));
        due("gainers(0, 10, 1)", OUTSIDE, x.gainers(0, 10, 1));
        due("gainers(0, 1, 0)", OUTSIDE, x.gainers(0, 1, 0));
        due("gainers(0, 1, 100)", OUTSIDE, x.gainers(0, 1, 100));
        due("gainers(0, 9, 99)", 2, x.gainers(0, 9, 99));
    }

    private static void gainersGoByLess() {
        PoundBoys x = Check.told("town 1 0 5 1;plain 1 10 0 0");
        due("a rate that falls", 2, x.gainers(1, 4, 1));
        due("a rate that grows", 4, x.gainers(1, 6, 1));
        due("the rate of the last town", 1, x.gainers(2, 6, 2));
        x.go(1);
        due("from now on: he is elsewhere", 0, x.gainers(1, 1, 2));
        due("from now on, and comes back", 2, x.gainers(1, 1, 3));
    }
}
