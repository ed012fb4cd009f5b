/** Promises 23 to 28: scales of which one may be false; boys mixed on the road. */
public final class ScalesRoadTest {
    private static final int NONE = -1, UNKNOWN = -2, OUTSIDE = -3, FULL = -5;

    public static void main(String[] args) {
        weigh();
        forget();
        scalesAllTrue();
        scalesOneFalse();
        scalesOfSixTowns();
        road();
        arrive();
        whoOfAnEmptyRoad();
        who();
        whoByWeight();
        whoOfMany();
        whoGoesByNow();
        Check.end();
    }

    private static void due(String call, long want, long got) {
        Check.due(call, want, got);
    }

    private static void weigh() {
        PoundBoys x = Check.told("plain 0 9 0 0;plain 0 9 0 0");
        due("weigh(3, 0, 0)", UNKNOWN, x.weigh(3, 0, 0));
        due("weigh(-1, 0, 0)", UNKNOWN, x.weigh(-1, 0, 0));
        due("weigh(0, 2, 0)", UNKNOWN, x.weigh(0, 2, 0));
        due("weigh(0, -1, 0)", UNKNOWN, x.weigh(0, -1, 0));
        due("weigh(0, 2, 200)", UNKNOWN, x.weigh(0, 2, 200));
        due("weigh(0, 0, 200)", OUTSIDE, x.weigh(0, 0, 200));
        due("weigh(0, 0, -1)", OUTSIDE, x.weigh(0, 0, -1));
        for (int i = 1; i <= 12; i++) {
            due("weigh " + i, i, x.weigh(i % 3, 1, i % 2 * 199));
        }
        due("weigh a 13th", FULL, x.weigh(0, 0, 0));
        due("weigh a 13th outside", OUTSIDE, x.weigh(0, 0, 200));
        due("weigh a 13th unknown", UNKNOWN, x.weigh(0, 2, 0));
        due("count(6)", 12, x.count(6));
        due("weights stay", 9, x.boy(1, 2));
    }

    private static void forget() {
        PoundBoys x = Check.told("plain 0 9 0 0");
        due("forget nothing", 0, x.forget());
        x.weigh(0, 0, 5);
        x.weigh(0, 0, 6);
        due("forget", 2, x.forget());
        due("count(6)", 0, x.count(6));
        due("scales(0)", 7, x.scales(0));
        due("scales(1)", 1, x.scales(1));
        due("weigh again", 1, x.weigh(0, 0, 7));
    }

    private static void scalesAre(PoundBoys x, int falseOnes, int allTrue) {
        due("scales(0)", falseOnes, x.scales(0));
        due("scales(1)", allTrue, x.scales(1));
    }

    private static void scalesAllTrue() {
        PoundBoys x = Check.told("plain 0 9 0 0;plain 0 9 0 0");
        due("scales(2)", OUTSIDE, x.scales(2));
        due("scales(-1)", OUTSIDE, x.scales(-1));
        due("scales(most)", OUTSIDE, x.scales(Integer.MAX_VALUE));
        scalesAre(x, 7, 1);
        x.weigh(0, 0, 50);
        scalesAre(x, 7, 1);
        x.weigh(0, 0, 50);
        x.weigh(0, 1, 60);
        scalesAre(x, 7, 1);
        x.weigh(1, 0, 50);
        scalesAre(x, 4, 1);
        x.weigh(2, 1, 60);
        scalesAre(x, 0, 1);
    }

    private static void scalesOneFalse() {
        PoundBoys x = Check.told("plain 0 9 0 0;plain 0 9 0 0;plain 0 9 0 0");
        x.weigh(0, 0, 50);
        x.weigh(1, 0, 60);
        scalesAre(x, 3, 0);
        x.weigh(1, 1, 60);
        x.weigh(2, 1, 50);
        scalesAre(x, 2, 0);
        x.weigh(1, 2, 60);
        x.weigh(0, 2, 70);
        scalesAre(x, 0, 0);
        x.forget();
        x.weigh(0, 0, 50);
        x.weigh(0, 0, 51);
        scalesAre(x, 0, 0);
        x.forget();
        x.weigh(0, 0, 50);
        x.weigh(1, 0, 50);
        x.weigh(2, 0, 49);
        scalesAre(x, 4, 0);
        x.forget();
        x.weigh(0, 0, 50);
        x.weigh(1, 0, 52);
        x.weigh(0, 1, 80);
        x.weigh(1, 1, 80);
        scalesAre(x, 0, 0);
        x.forget();
        x.weigh(0, 0, 0);
        x.weigh(1, 0, 199);
        x.weigh(0, 1, 0);
        x.weigh(1, 1, 199);
        scalesAre(x, 3, 0);
        x.go(5);
        scalesAre(x, 3, 0);
    }

    private static void scalesOfSixTowns() {
        PoundBoys x = Check.told("league 6;plain 0 9 0 0;plain 0 9 0 0");
        scalesAre(x, 63, 1);
        for (int town = 0; town < 6; town++) {
            x.weigh(town, 0, town == 5 ? 7 : 9);
        }
        scalesAre(x, 32, 0);
        x.weigh(5, 1, 3);
        scalesAre(x, 32, 0);
        x.weigh(0, 1, 5);
        scalesAre(x, 32, 0);
        x.weigh(1, 1, 1);
        scalesAre(x, 0, 0);
        Check.tell(x, "league 2");
        scalesAre(x, 3, 1);
    }

    private static void road() {
        PoundBoys x = new PoundBoys();
        due("road(0, 0)", OUTSIDE, x.road(0, 0));
        due("road(100, 0)", OUTSIDE, x.road(100, 0));
        due("road(1, -1)", OUTSIDE, x.road(1, -1));
        due("road(1, 4)", OUTSIDE, x.road(1, 4));
        due("road(most, 0)", OUTSIDE, x.road(Integer.MAX_VALUE, 0));
        due("road(least, 0)", OUTSIDE, x.road(Integer.MIN_VALUE, 0));
        for (int i = 1; i <= 6; i++) {
            due("road " + i, i, x.road(i % 2 == 0 ? 1 : 99, i % 4));
        }
        due("road of a 7th", FULL, x.road(1, 0));
        due("road of a 7th outside", OUTSIDE, x.road(0, 0));
        due("count(7)", 6, x.count(7));
    }

    private static void arrive() {
        PoundBoys x = new PoundBoys();
        due("arrive of none", 0, x.arrive());
        x.road(5, 0);
        x.road(6, 0);
        due("arrive", 2, x.arrive());
        due("count(7)", 0, x.count(7));
        due("road again", 1, x.road(5, 0));
    }

    private static void whoOfAnEmptyRoad() {
        PoundBoys x = Check.told("plain 0 9 0 0");
        due("who(NONE)", 1, x.who(NONE));
        due("who(0)", OUTSIDE, x.who(0));
        due("who(-2)", OUTSIDE, x.who(-2));
        due("who(least)", OUTSIDE, x.who(Integer.MIN_VALUE));
        due("who(most)", OUTSIDE, x.who(Integer.MAX_VALUE));
    }

    private static void whoIs(PoundBoys x, int rows, int... bits) {
        due("who(NONE)", rows, x.who(NONE));
        for (int i = 0; i < bits.length; i++) {
            due("who(" + i + ")", bits[i], x.who(i));
        }
        due("who(" + bits.length + ")", OUTSIDE, x.who(bits.length));
        due("who(-2)", OUTSIDE, x.who(-2));
    }

    private static void who() {
        PoundBoys x = Check.told("plain 0 20 0 0;half 1 21 0 0;prodigy 2 22 0 0;fool 2 21 1 0");
        x.road(21, 0);
        whoIs(x, 3, 7);
        x.road(20, 0);
        whoIs(x, 4, 7, 3);
        x.road(19, 0);
        whoIs(x, 1, 4, 2, 1);
        x.road(21, 1);
        whoIs(x, 1, 4, 2, 1, 8);
        x.road(21, 2);
        whoIs(x, 0, 0, 0, 0, 0, 0);
    }

    private static void whoByWeight() {
        PoundBoys x = Check.told("plain 0 1 0 0;plain 0 2 0 0;plain 0 3 0 0;plain 0 99 0 0;plain 0 98 0 0;plain 0 97 0 0");
        x.road(1, 0);
        whoIs(x, 2, 3);
        x.arrive();
        x.road(99, 0);
        whoIs(x, 2, 8 + 16);
        x.arrive();
        x.road(98, 0);
        whoIs(x, 3, 8 + 16 + 32);
        x.arrive();
        x.road(50, 0);
        whoIs(x, 0, 0);
        x.road(1, 0);
        whoIs(x, 0, 0, 0);
    }

    private static void whoOfMany() {
        PoundBoys x = Check.told("plain 0 5 3 0;plain 0 5 3 0;plain 0 5 3 0;plain 0 5 3 0;plain 0 5 3 0",
            "plain 0 5 3 0;plain 0 5 3 0;plain 0 5 3 0;plain 0 5 3 0;plain 0 5 3 0");
        int rows = 1;
        for (int i = 0; i < 6; i++) {
            x.road(4 + i % 3, 3);
            rows *= 10 - i;
            due("rows of " + (i + 1), rows, x.who(NONE));
            due("the first of " + (i + 1), 1023, x.who(0));
            due("the last of " + (i + 1), 1023, x.who(i));
        }
        Check.tell(x, "free;plain 0 5 3 0;plain 0 5 3 0");
        x.road(5, 3);
        x.road(5, 3);
        whoIs(x, 2, 3, 3);
        x.road(5, 3);
        whoIs(x, 0, 0, 0, 0);
    }

    private static void whoGoesByNow() {
        PoundBoys x = Check.told("none;town 0 1 1 3;plain 0 20 0 1");
        x.road(20, 0);
        whoIs(x, 1, 1);
        x.go(1);
        whoIs(x, 0, 0);
        x.road(21, 1);
        whoIs(x, 0, 0, 0);
        x.arrive();
        x.road(21, 1);
        whoIs(x, 1, 1);
    }
}
