/** Promises 9 to 14: an exchange told, judged and done; the ring. */
public final class ExchangeTest {
    private static final int NONE = -1, UNKNOWN = -2, OUTSIDE = -3, NOT = -4, FULL = -5, MORE = 10000000;

    public static void main(String[] args) {
        give();
        giveIsFull();
        drop();
        balance();
        judgeByNumbers();
        judgeBySlack();
        deal();
        dealOfMany();
        ringOfLeastCheese();
        ringByFirstRow();
        ringHasATownOnce();
        ringThatBeginsAnother();
        ringOfAll();
        noRing();
        Check.end();
    }

    private static void due(String call, long want, long got) {
        Check.due(call, want, got);
    }

    private static void give() {
        PoundBoys x = Check.told("plain 0 9 0 0;prodigy 1 9 0 0");
        due("give(-1, 0)", UNKNOWN, x.give(-1, 0));
        due("give(2, 0)", UNKNOWN, x.give(2, 0));
        due("give(0, -1)", UNKNOWN, x.give(0, -1));
        due("give(0, 3)", UNKNOWN, x.give(0, 3));
        due("give(0, most)", UNKNOWN, x.give(0, Integer.MAX_VALUE));
        due("give(least, 0)", UNKNOWN, x.give(Integer.MIN_VALUE, 0));
        due("give(0, 0)", OUTSIDE, x.give(0, 0));
        due("give(0, 1)", 1, x.give(0, 1));
        due("give(0, 0) again", OUTSIDE, x.give(0, 0));
        due("give(0, 1) again", NOT, x.give(0, 1));
        due("give(0, 2) again", NOT, x.give(0, 2));
        due("give(0, 3) again", UNKNOWN, x.give(0, 3));
        due("a prodigy is given", 2, x.give(1, 2));
        due("count(4)", 2, x.count(4));
        due("nobody went", 0, x.boy(0, 1));
    }

    private static void giveIsFull() {
        PoundBoys x = Check.told("plain 0 1 0 0;plain 0 1 0 0;plain 0 1 0 0;plain 0 1 0 0;plain 0 1 0 0",
            "plain 0 1 0 0;plain 0 1 0 0;plain 0 1 0 0;plain 0 1 0 0;plain 0 1 0 0");
        for (int boy = 0; boy < 8; boy++) {
            due("give(" + boy + ")", boy + 1, x.give(9 - boy, 2));
        }
        due("give a ninth", FULL, x.give(0, 1));
        due("give a ninth to his own town", OUTSIDE, x.give(0, 0));
        due("give one that is in it", NOT, x.give(9, 1));
        due("count(4)", 8, x.count(4));
    }

    private static void drop() {
        PoundBoys x = Check.told("plain 0 9 0 0;plain 1 9 0 0");
        due("drop nothing", 0, x.drop());
        x.give(0, 1);
        x.give(1, 0);
        due("drop", 2, x.drop());
        due("count(4)", 0, x.count(4));
        due("balance", MORE, x.balance(0));
        due("give again", 1, x.give(0, 2));
    }

    private static void balance() {
        PoundBoys x = Check.told("town 0 0 2 1;town 1 0 3 1;town 2 0 9 1;plain 0 10 0 0;half 1 11 0 0;plain 1 4 0 0");
        due("balance of no exchange", MORE, x.balance(2));
        x.give(0, 1);
        due("balance(0)", MORE - 20, x.balance(0));
        due("balance(1)", MORE + 20, x.balance(1));
        due("balance(2)", MORE, x.balance(2));
        x.give(1, 2);
        due("balance(1)", MORE + 20 - 15, x.balance(1));
        due("balance(2), by the rate where he is", MORE + 15, x.balance(2));
        x.give(2, 0);
        due("balance(0)", MORE - 20 + 12, x.balance(0));
        due("balance(1)", MORE + 20 - 15 - 12, x.balance(1));
        due("balance(3)", UNKNOWN, x.balance(3));
        due("balance(-1)", UNKNOWN, x.balance(-1));
        due("balance(most)", UNKNOWN, x.balance(Integer.MAX_VALUE));
    }

    private static void judgeByNumbers() {
        PoundBoys x = Check.told("slack 999;plain 0 9 0 0;plain 1 9 0 0;plain 2 9 0 0;plain 2 9 0 0");
        due("judge of none", NONE, x.judge());
        x.give(1, 2);
        due("town 1 gives one more", 1, x.judge());
        x.give(2, 1);
        due("one for one", NONE, x.judge());
        x.give(3, 0);
        due("town 0 gets one more", 0, x.judge());
        x.give(0, 2);
        due("two for two", NONE, x.judge());
    }

    private static void judgeBySlack() {
        PoundBoys x = Check.told("plain 0 10 0 0;plain 1 10 0 0;plain 1 13 0 0;plain 2 10 0 0");
        x.give(0, 1);
        x.give(1, 0);
        due("weight for weight, slack 0", NONE, x.judge());
        x.drop();
        x.give(3, 1);
        x.give(2, 2);
        due("balance 3, slack 0", 1, x.judge());
        Check.tell(x, "slack 2");
        x.give(3, 1);
        x.give(2, 2);
        due("balance 3, slack 2", 1, x.judge());
        Check.tell(x, "slack 3");
        x.give(3, 1);
        x.give(2, 2);
        due("balance 3, slack 3", NONE, x.judge());
        Check.tell(x, "town 2 0 2 1;slack 6");
        x.give(3, 1);
        x.give(2, 2);
        due("balance 7, slack 6", 1, x.judge());
    }

    private static void deal() {
        PoundBoys x = Check.told("town 1 0 2 1;plain 0 10 0 0;half 1 12 0 0;plain 2 12 0 0");
        due("deal of none", 0, x.deal());
        x.give(0, 1);
        x.give(1, 0);
        due("deal that does not close", NOT, x.deal());
        due("it stays told", 2, x.count(4));
        due("nobody went", 0, x.boy(0, 1));
        due("no cheese", MORE, x.town(0, 5));
        Check.tell(x, "slack 2");
        x.give(0, 1);
        x.give(1, 0);
        due("deal", 2, x.deal());
        due("it is empty", 0, x.count(4));
        due("boy 0 went", 1, x.boy(0, 1));
        due("boy 1 went", 0, x.boy(1, 1));
        due("boy 2 stays", 2, x.boy(2, 1));
        due("cheese of 0", MORE - 2, x.town(0, 5));
        due("cheese of 1", MORE + 2, x.town(1, 5));
        due("cheese of 2", MORE, x.town(2, 5));
        due("worth by his new town", 20, x.boy(0, 5));
        due("no year went", 0, x.count(5));
        x.give(0, 0);
        x.give(1, 1);
        due("back again does not close", NOT, x.deal());
    }

    private static void dealOfMany() {
        PoundBoys x = Check.told("league 4;slack 20;plain 0 10 0 0;plain 1 20 0 0;plain 2 30 0 0;plain 3 25 0 0");
        x.give(0, 1);
        x.give(1, 2);
        x.give(2, 3);
        x.give(3, 0);
        due("deal of a ring of four", 4, x.deal());
        int[] cheese = {-15, 10, 10, -5};
        for (int town = 0; town < 4; town++) {
            due("cheese of " + town, MORE + cheese[town], x.town(town, 5));
            due("boys of " + town, 1, x.town(town, 6));
        }
    }

    /** A ring's cheese (NONE: no ring), then its boys. */
    private static void ringIs(PoundBoys x, int cheese, int... boys) {
        due("ring(0)", cheese, x.ring(0));
        due("ring(1)", boys.length == 0 ? NONE : boys.length, x.ring(1));
        for (int i = 0; i < 6; i++) {
            due("ring(" + (10 + i) + ")", i < boys.length ? boys[i] : NONE, x.ring(10 + i));
        }
        for (int what : new int[] {-1, 2, 9, 16, Integer.MAX_VALUE, Integer.MIN_VALUE}) {
            due("ring(" + what + ")", OUTSIDE, x.ring(what));
        }
    }

    private static void ringOfLeastCheese() {
        PoundBoys x = Check.told("want 0 1;want 1 0;town 1 0 2 1;plain 0 10 0 0;plain 0 30 0 0;plain 1 14 1 0;half 1 41 1 0");
        ringIs(x, 2, 1, 2);
        Check.tell(x, "prodigy 0 40 0 0");
        ringIs(x, 0, 4, 3);
        due("nothing changes", 0, x.boy(4, 1));
        due("nothing is told", 0, x.count(4));
        due("no cheese", MORE, x.town(0, 5));
    }

    private static void ringByFirstRow() {
        PoundBoys x = Check.told("want 0 1;want 1 0;plain 1 10 1 0;plain 1 10 1 0;plain 0 10 0 0;plain 0 10 0 0");
        ringIs(x, 0, 2, 0);
        Check.tell(x, "league 4;want 2 1;want 3 0;want 0 1;want 1 0;plain 2 9 0 0;plain 3 9 1 0;plain 0 9 0 0;plain 1 9 1 0");
        ringIs(x, 0, 0, 1);
        Check.tell(x, "league 2;want 0 1;want 1 0;plain 0 10 0 0;plain 0 10 0 0;plain 1 20 1 0");
        ringIs(x, 10, 0, 2);
    }

    private static void ringHasATownOnce() {
        PoundBoys x = Check.told("want 0 1;want 1 0;want 2 0;plain 0 9 0 0;plain 1 9 0 0;plain 2 9 0 0;plain 1 9 1 0");
        ringIs(x, 0, 0, 2, 3);
    }

    private static void ringThatBeginsAnother() {
        PoundBoys x = Check.told("want 0 0;want 1 0;want 2 0;plain 0 10 0 0;plain 1 10 0 0;plain 2 10 0 0");
        ringIs(x, 0, 0, 1);
        Check.tell(x, "free;plain 0 10 0 0;plain 2 10 0 0;plain 1 10 0 0");
        ringIs(x, 0, 0, 1);
        Check.tell(x, "free;plain 2 10 0 0;plain 0 10 0 0;plain 1 10 0 0");
        ringIs(x, 0, 1, 0);
    }

    private static void ringOfAll() {
        PoundBoys x = Check.told("league 6;want 0 1;want 5 0;want 4 3;want 3 2;want 2 1;want 1 0",
            "plain 0 1 0 0;plain 5 2 3 0;plain 4 3 2 0;plain 3 4 1 0;plain 2 5 0 0;plain 1 6 1 0");
        ringIs(x, 1, 5, 4);
        Check.tell(x, "want 0 0;want 5 1;want 4 2;want 3 1;want 2 2;want 1 3");
        Check.tell(x, "free;plain 0 7 1 1;plain 5 7 2 1;plain 4 7 1 1;plain 3 7 2 1;plain 2 7 3 1;plain 1 7 0 1");
        ringIs(x, 0, 0, 1, 2, 3, 4, 5);
        x.go(1);
        due("a ring goes by skills now", NONE, x.ring(0));
    }

    private static void noRing() {
        PoundBoys x = Check.told("league 4");
        ringIs(x, NONE);
        Check.tell(x, "want 0 0;plain 0 9 0 0;plain 1 9 0 0");
        ringIs(x, NONE);
        Check.tell(x, "want 1 1");
        ringIs(x, NONE);
        Check.tell(x, "want 1 0");
        ringIs(x, 0, 0, 1);
        Check.tell(x, "free;plain 0 9 0 0;plain 0 9 0 0");
        ringIs(x, NONE);
    }
}
