/** Promises 15 to 17: years that go, a league kept and brought back. */
public final class YearsTest {
    private static final int NONE = -1, UNKNOWN = -2, OUTSIDE = -3, NOT = -4, FULL = -5, MORE = 10000000;

    public static void main(String[] args) {
        go();
        goIsFull();
        weights();
        grades();
        whoGoes();
        ofSeveralTheLeastNumber();
        allAtOnce();
        cheeseOfLent();
        keep();
        back();
        backKeepsWhatIsNotKept();
        Check.end();
    }

    private static void due(String call, long want, long got) {
        Check.due(call, want, got);
    }

    private static void go() {
        PoundBoys x = Check.told("none;plain 0 5 0 0");
        due("go(0)", OUTSIDE, x.go(0));
        due("go(-1)", OUTSIDE, x.go(-1));
        due("go(100)", OUTSIDE, x.go(100));
        due("go(most)", OUTSIDE, x.go(Integer.MAX_VALUE));
        due("go(least)", OUTSIDE, x.go(Integer.MIN_VALUE));
        x.give(0, 1);
        due("go(100) leaves the exchange", OUTSIDE, x.go(100));
        due("count(4)", 1, x.count(4));
        due("go(1)", 1, x.go(1));
        due("the exchange is empty", 0, x.count(4));
        due("go(99)", 100, x.go(99));
        due("count(5)", 100, x.count(5));
    }

    private static void goIsFull() {
        PoundBoys x = Check.told("plain 0 5 0 0");
        for (int i = 1; i <= 10; i++) {
            due("go(99)", 99 * i, x.go(99));
        }
        x.give(0, (x.boy(0, 1) + 1) % 3);
        due("go above 999", FULL, x.go(10));
        due("the exchange stays", 1, x.count(4));
        due("go(100) when full", OUTSIDE, x.go(100));
        due("years stay", 990, x.count(5));
        due("go to 999", 999, x.go(9));
        due("go above 999", FULL, x.go(1));
        due("foretold above 999", 1, x.later(0, 1, 0));
        Check.tell(x, "none");
        due("a text begins the years", 1, x.go(1));
    }

    private static void weights() {
        PoundBoys x = Check.told("league 4;none;town 0 0 1 0;town 1 0 1 1;town 2 0 1 2;town 3 0 1 3",
            "plain 0 2 0 0;half 1 50 0 0;fool 2 98 0 0;prodigy 3 96 0 0");
        int[][] weights = {{1, 50, 99, 98}, {1, 50, 99, 99}, {1, 50, 99, 99}};
        for (int year = 0; year < 3; year++) {
            x.go(1);
            for (int boy = 0; boy < 4; boy++) {
                due("weight of " + boy + " behind year " + (year + 1), weights[year][boy], x.boy(boy, 2));
            }
        }
    }

    private static void grades() {
        PoundBoys x = Check.told("none;town 0 2 1 1", "plain 0 9 2 7;fool 0 9 2 7;half 0 9 2 7;prodigy 0 9 2 6",
            "plain 0 9 1 2;fool 0 9 1 1;half 0 9 1 0;prodigy 0 9 1 2");
        int[][] grades = {
            {8, 7, 8, 8, 1, 0, 0, 1}, {9, 7, 9, 9, 0, 0, 1, 0}, {9, 7, 9, 9, 1, 0, 2, 2}, {9, 7, 9, 9, 2, 0, 3, 4}
        };
        int[][] skills = {{2, 2, 2, 2, 1, 2, 2, 1}, {2, 2, 2, 2, 2, 2, 2, 2}, {2, 2, 2, 2, 2, 2, 2, 2}, {2, 2, 2, 2, 2, 2, 2, 2}};
        for (int year = 0; year < 4; year++) {
            x.go(1);
            for (int boy = 0; boy < 8; boy++) {
                due("grade of " + boy + " behind year " + (year + 1), grades[year][boy], x.boy(boy, 4));
                due("skill of " + boy + " behind year " + (year + 1), skills[year][boy], x.boy(boy, 3));
            }
        }
    }

    /** Which boys are in town 1 behind one year in which all were in town 0. */
    private static int sentBy(String law, String boys) {
        PoundBoys x = Check.told(law, boys);
        x.go(1);
        int bits = 0;
        for (int boy = 0; boy < x.count(1); boy++) {
            if (x.boy(boy, 1) == 1) {
                bits |= 1 << boy;
            }
        }
        return bits;
    }

    private static void whoGoes() {
        String boys = "prodigy 0 90 0 0;plain 0 50 0 5;half 0 70 0 4;fool 0 40 0 6;plain 0 60 0 2;prodigy 0 1 0 0";
        due("heavy, by weight, not by pounds", 4, sentBy("heavy", boys));
        due("light", 8, sentBy("light", boys));
        due("least", 16, sentBy("least", boys));
        due("none", 0, sentBy("none", boys));
        due("heavy, prodigies alone", 0, sentBy("heavy", "prodigy 0 9 0 0"));
        due("heavy, no boys there", 0, sentBy("heavy", "plain 2 9 0 0"));
        due("least, by grades behind the year", 2, sentBy("least", "plain 0 9 0 3;fool 0 9 0 3"));
        due("heavy, by weights behind the year", 1, sentBy("heavy;town 0 0 1 3", "plain 0 98 0 0;plain 0 99 0 0"));
    }

    private static void ofSeveralTheLeastNumber() {
        String boys = "prodigy 0 9 0 0;plain 0 9 0 3;half 0 9 0 3;plain 0 9 0 3";
        due("heavy of several", 2, sentBy("heavy", boys));
        due("light of several", 2, sentBy("light", boys));
        due("least of several", 2, sentBy("least", boys));
    }

    private static void allAtOnce() {
        PoundBoys x = Check.told("league 4;next 3 1;next 1 3;plain 0 90 0 0;plain 1 50 0 0;plain 2 40 0 0;plain 3 30 0 0");
        x.go(1);
        int[] towns = {1, 3, 3, 1};
        for (int boy = 0; boy < 4; boy++) {
            due("town of " + boy, towns[boy], x.boy(boy, 1));
        }
        x.go(1);
        int[] second = {3, 1, 3, 1};
        for (int boy = 0; boy < 4; boy++) {
            due("town of " + boy + " behind two", second[boy], x.boy(boy, 1));
        }
    }

    private static void cheeseOfLent() {
        PoundBoys x = Check.told("town 0 0 2 3;town 1 0 3 1;town 2 0 5 0;plain 0 10 0 0;half 1 21 0 0;prodigy 2 10 0 0");
        x.go(1);
        due("cheese of 0: gave 12 by 2", MORE + 24, x.town(0, 5));
        due("cheese of 1: got 24, gave 10 by 3", MORE - 24 + 30, x.town(1, 5));
        due("cheese of 2: got 30", MORE - 30, x.town(2, 5));
        x.go(1);
        due("cheese of 0 behind two: got 10 by 5", MORE + 24 - 50, x.town(0, 5));
        due("cheese of 1 behind two: gave 12 by 3", MORE + 6 + 36, x.town(1, 5));
        due("cheese of 2 behind two", MORE - 30 - 36 + 50, x.town(2, 5));
        PoundBoys two = Check.told("next 0 2;plain 0 10 0 0;plain 1 20 0 0");
        two.go(1);
        due("two come to one town", 2, two.town(2, 6));
        due("cheese for two", MORE - 30, two.town(2, 5));
    }

    private static void keep() {
        PoundBoys x = Check.told("plain 0 9 0 0");
        due("keep(-1)", UNKNOWN, x.keep(-1));
        due("keep(2)", UNKNOWN, x.keep(2));
        due("keep(most)", UNKNOWN, x.keep(Integer.MAX_VALUE));
        due("keep(0)", 0, x.keep(0));
        x.go(5);
        due("keep(1)", 5, x.keep(1));
        x.go(1);
        due("back(0)", 0, x.back(0));
        due("back(1)", 5, x.back(1));
        due("back(1) again", 5, x.back(1));
        x.go(4);
        due("keep(0) anew", 9, x.keep(0));
        due("back(1)", 5, x.back(1));
        due("back(0)", 9, x.back(0));
    }

    private static void back() {
        PoundBoys x = Check.told("town 0 1 3 2;slack 99;plain 0 20 0 3;half 1 40 1 1;prodigy 2 7 2 2");
        due("back(0)", NOT, x.back(0));
        due("back(-1)", UNKNOWN, x.back(-1));
        due("back(2)", UNKNOWN, x.back(2));
        due("back(least)", UNKNOWN, x.back(Integer.MIN_VALUE));
        x.go(3);
        int[] before = all(x);
        x.keep(1);
        due("back(0) with another kept", NOT, x.back(0));
        x.give(2, 0);
        x.go(11);
        x.give(2, 1);
        due("back(1)", 3, x.back(1));
        due("the exchange is empty", 0, x.count(4));
        int[] after = all(x);
        for (int i = 0; i < before.length; i++) {
            due("what was kept, number " + i, before[i], after[i]);
        }
        due("years", 3, x.count(5));
        x.go(11);
        due("what is kept does not change", 3, x.back(1));
        due("what is kept does not change", before[0], all(x)[0]);
    }

    private static int[] all(PoundBoys x) {
        int[] numbers = new int[3 * 6 + 3];
        for (int boy = 0; boy < 3; boy++) {
            for (int what = 0; what < 6; what++) {
                numbers[boy * 6 + what] = x.boy(boy, what);
            }
            numbers[18 + boy] = x.town(boy, 5);
        }
        return numbers;
    }

    private static void backKeepsWhatIsNotKept() {
        PoundBoys x = Check.told("plain 0 9 0 0");
        x.weigh(0, 0, 5);
        x.keep(0);
        x.weigh(1, 0, 5);
        x.road(9, 0);
        x.write(Check.packed("free"), 4);
        x.give(0, 1);
        due("keep leaves the exchange", 0, x.keep(1));
        due("count(4)", 1, x.count(4));
        due("back(0)", 0, x.back(0));
        due("scales stay", 2, x.count(6));
        due("the road stays", 1, x.count(7));
        due("the text stays", 4, x.count(8));
        PoundBoys fresh = new PoundBoys();
        fresh.go(4);
        due("keep ahead of any text", 4, fresh.keep(1));
        fresh.go(4);
        due("back ahead of any text", 4, fresh.back(1));
        due("none of the other", NOT, fresh.back(0));
        due("a road still stands", 1, fresh.road(1, 0));
        due("NONE is none of the towns", UNKNOWN, fresh.owed(NONE, 0));
        due("years in all", 103, fresh.go(99));
        for (int i = 0; i < 9; i++) {
            fresh.go(99);
        }
        due("full", FULL, fresh.go(99));
        due("back when full", 4, fresh.back(1));
        due("go behind it", 5, fresh.go(1));
    }
}
