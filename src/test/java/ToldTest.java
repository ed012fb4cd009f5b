/** Promises 1 to 8 and 29: a new object, texts, what is told of towns and boys. */
public final class ToldTest {
    private static final int NONE = -1, UNKNOWN = -2, OUTSIDE = -3, NOT = -4, FULL = -5, MORE = 10000000;

    public static void main(String[] args) {
        aNewObject();
        write();
        bytesOfAWrite();
        erase();
        faultsOfNumbers();
        faultsOfOrder();
        blanks();
        faultsByLinesAhead();
        theEleventhBoy();
        league();
        leagueIsAsAtFirst();
        textsBehindTexts();
        whatATextEnds();
        town();
        boy();
        as();
        count();
        Check.end();
    }

    private static void due(String call, long want, long got) {
        Check.due(call, want, got);
    }

    private static void aNewObject() {
        PoundBoys x = new PoundBoys();
        int[] counts = {3, 0, 0, 0, 0, 0, 0, 0, 0};
        for (int what = 0; what < counts.length; what++) {
            due("new: count(" + what + ")", counts[what], x.count(what));
        }
        for (int town = 0; town < 3; town++) {
            int[] first = {0, 1, 1, NONE, (town + 1) % 3, MORE, 0};
            for (int what = 0; what < first.length; what++) {
                due("new: town(" + town + ", " + what + ")", first[what], x.town(town, what));
            }
        }
        due("new: town(3, 0)", UNKNOWN, x.town(3, 0));
        due("new: boy(0, 0)", UNKNOWN, x.boy(0, 0));
        due("new: fault()", 0, x.fault());
        due("new: back(0)", NOT, x.back(0));
    }

    private static void write() {
        PoundBoys x = new PoundBoys();
        due("write n 0", OUTSIDE, x.write(0, 0));
        due("write n -1", OUTSIDE, x.write(0, -1));
        due("write n 9", OUTSIDE, x.write(0, 9));
        due("write n least", OUTSIDE, x.write(0, Integer.MIN_VALUE));
        due("write n most", OUTSIDE, x.write(0, Integer.MAX_VALUE));
        due("write 1", 1, x.write(97, 1));
        for (int i = 1; i <= 24; i++) {
            due("write 8", 1 + 8 * i, x.write(-1L, 8));
        }
        due("write above 200", FULL, x.write(0, 8));
        due("write n 9 when full", OUTSIDE, x.write(0, 9));
        due("count(8) behind it", 193, x.count(8));
        due("write to 200", 200, x.write(0, 7));
        due("write at 200", FULL, x.write(0, 1));
        due("count(8) at 200", 200, x.count(8));
    }

    private static void bytesOfAWrite() {
        PoundBoys x = new PoundBoys();
        due("bytes above n are nothing", 5, x.write(Check.packed("light;;;"), 5));
        due("league", 1, x.league());
        due("law", 1, x.count(2));
        x.write(Check.packed("slack 12"), 8);
        x.write(Check.packed("3"), 1);
        due("a number over two writes", 1, x.league());
        due("slack", 123, x.count(3));
        x.write(Check.packed("none") | 255L << 32, 5);
        due("byte 255", 4, x.fault());
        x.erase();
        x.write(Check.packed("none") | (';' + 128L) << 32, 5);
        due("byte above 127", 4, x.fault());
    }

    private static void erase() {
        PoundBoys x = new PoundBoys();
        due("erase nothing", 0, x.erase());
        Check.write(x, "slack 5;light");
        due("erase", 13, x.erase());
        due("count(8)", 0, x.count(8));
        due("erase again", 0, x.erase());
        due("nothing was done", 0, x.count(3));
        Check.tell(x, "none");
        due("what comes behind it is read from its begin", 3, x.count(2));
    }

    private static void faultIs(String text, int place) {
        PoundBoys x = new PoundBoys();
        Check.write(x, text);
        due("fault() of '" + text + "'", place, x.fault());
        due("fault() changes nothing, '" + text + "'", place, x.fault());
        if (place != NONE) {
            due("league() of '" + text + "'", NOT, x.league());
            due("count(8) of '" + text + "'", text.length(), x.count(8));
        }
    }

    private static void faultsOfNumbers() {
        faultIs("league 2", NONE);
        faultIs("league 6", NONE);
        faultIs("league 1", 7);
        faultIs("league 7", 7);
        faultIs("town 2 3 9 3", NONE);
        faultIs("town 0 0 1 0", NONE);
        faultIs("town 3 0 1 0", 5);
        faultIs("town 2 4 1 0", 7);
        faultIs("town 2 3 0 0", 9);
        faultIs("town 2 3 10 0", 9);
        faultIs("town 2 3 9 4", 11);
        faultIs("want 2 3", NONE);
        faultIs("want 3 3", 5);
        faultIs("want 2 4", 7);
        faultIs("next 0 2", NONE);
        faultIs("next 3 0", 5);
        faultIs("next 0 3", 7);
        faultIs("next 0 0", 7);
        for (String kind : new String[] {"plain", "fool", "half", "prodigy"}) {
            int at = kind.length() + 1;
            faultIs(kind + " 2 99 3 9", NONE);
            faultIs(kind + " 0 1 0 0", NONE);
            faultIs(kind + " 3 1 0 0", at);
            faultIs(kind + " 2 0 0 0", at + 2);
            faultIs(kind + " 2 100 0 0", at + 2);
            faultIs(kind + " 2 1 4 0", at + 4);
            faultIs(kind + " 2 1 3 10", at + 6);
        }
        faultIs("slack 999", NONE);
        faultIs("slack 0", NONE);
        faultIs("slack 000", NONE);
        faultIs("slack 1000", 6);
        faultIs("slack 0000", 6);
        faultIs("slack 99999999999999999999", 6);
        faultIs("town 002 003 009 003", NONE);
        faultIs("town 0002 3 9 3", 5);
    }

    private static void faultsOfOrder() {
        faultIs("", 0);
        faultIs("   ", 3);
        faultIs(";", 0);
        faultIs("light;", 6);
        faultIs("light;;light", 6);
        faultIs("lights", 0);
        faultIs("lightz", 0);
        faultIs("xight", 0);
        faultIs("light`", 5);
        faultIs("light{", 5);
        faultIs("slack 1/", 7);
        faultIs("slack 1:", 7);
        faultIs("ligh", 0);
        faultIs("Light", 0);
        faultIs("lighT", 0);
        faultIs("lightT", 5);
        faultIs("5", 0);
        faultIs("light;5", 6);
        faultIs("light 5", 6);
        faultIs("light light", 6);
        faultIs("free 1", 5);
        faultIs("none.", 4);
        faultIs("slack", 5);
        faultIs("slack ", 6);
        faultIs("slack;", 5);
        faultIs("slack x", 6);
        faultIs("slack -1", 6);
        faultIs("slack 1 2", 8);
        faultIs("town 1 2 3", 10);
        faultIs("town 1 2 3;", 10);
        faultIs("town 1 2 3 3 3", 13);
        faultIs("plain 1 2 3 3 3", 14);
        faultIs("want 1 2 3", 9);
        faultIs("next 1 2 3", 9);
        faultIs("league 3 3", 9);
        faultIs("league 3;x", 9);
        faultIs("light,none", 5);
        faultIs("light\tnone", 5);
        faultIs("slack 1x", 7);
        faultIs("heavy;light;least;none;free;free;free;free;free;free", NONE);
        faultIs("heavy;light;least;none;free;free;free;free;free;free;free", 52);
        faultIs("heavy;light;least;none;free;free;free;free;free;free ;", 53);
        faultIs("heavy;light;least;none;free;free;free;free;free;free x", 53);
    }

    private static void blanks() {
        faultIs("  light  ", NONE);
        faultIs(" slack   7 ; light ", NONE);
        faultIs("slack 7;  ", 10);
        faultIs("slack7", NONE);
        faultIs("slack 7;  x", 10);
        faultIs("sl ack 7", 0);
        faultIs("slack 1 0", 8);
        PoundBoys x = Check.told("  slack   7  ;light");
        due("slack among blanks", 7, x.count(3));
        due("law behind blanks", 1, x.count(2));
    }

    private static void faultsByLinesAhead() {
        faultIs("league 2;fool 2 1 0 0", 14);
        faultIs("fool 2 1 0 0;league 2", NONE);
        faultIs("league 6;town 5 0 1 1", NONE);
        faultIs("town 5 0 1 1;league 6", 5);
        faultIs("league 6;next 5 0;league 2;next 1 2", 34);
        PoundBoys x = Check.told("league 5");
        Check.write(x, "want 4 0");
        due("towns of the text ahead", NONE, x.fault());
        due("fault() does nothing", NONE, x.town(4, 3));
        x.erase();
        Check.write(x, "league 2;slack 9;plain 0 1 0 0;x");
        due("fault behind good lines", 31, x.fault());
        due("league() behind good lines", NOT, x.league());
        due("towns are the same", 5, x.count(0));
        due("slack is the same", 0, x.count(3));
        due("boys are the same", 0, x.count(1));
    }

    private static void theEleventhBoy() {
        PoundBoys x = Check.told("plain 0 1 0 0;plain 0 1 0 0;plain 0 1 0 0;plain 0 1 0 0;plain 0 1 0 0");
        Check.tell(x, "plain 0 1 0 0;plain 0 1 0 0;plain 0 1 0 0;plain 0 1 0 0");
        Check.write(x, "fool 0 1 0 0; half 0 1 0 0");
        due("fault at the eleventh's word", 14, x.fault());
        x.erase();
        Check.tell(x, "fool 0 1 0 0");
        due("ten boys", 10, x.count(1));
        for (String kind : new String[] {"plain", "fool", "half", "prodigy"}) {
            Check.write(x, "  " + kind + " 9 9 9 9");
            due("fault at the word of " + kind, 2, x.fault());
            x.erase();
        }
        Check.tell(x, "free;plain 0 1 0 0");
        due("one boy behind free", 1, x.count(1));
        Check.tell(x, "plain 0 1 0 0;league 3;plain 1 7 0 0");
        due("one boy behind league", 1, x.count(1));
        due("it is that one", 7, x.boy(0, 2));
    }

    private static void league() {
        PoundBoys x = new PoundBoys();
        due("league() of no text", NOT, x.league());
        Check.write(x, "league 4;town 3 2 5 0;want 3 1;next 3 1;slack 77;least;half 3 41 2 6");
        due("league()", 7, x.league());
        due("the text is empty", 0, x.count(8));
        int[] town = {2, 5, 0, 1, 1, MORE, 1};
        for (int what = 0; what < town.length; what++) {
            due("told: town(3, " + what + ")", town[what], x.town(3, what));
        }
        int[] boy = {2, 3, 41, 2, 6, 100};
        for (int what = 0; what < boy.length; what++) {
            due("told: boy(0, " + what + ")", boy[what], x.boy(0, what));
        }
        due("law", 2, x.count(2));
        due("slack", 77, x.count(3));
        due("towns", 4, x.count(0));
        String[] laws = {"heavy", "light", "least", "none"};
        for (int law = 0; law < laws.length; law++) {
            Check.tell(x, laws[law]);
            due(laws[law], law, x.count(2));
        }
        Check.tell(x, "light;none;heavy;slack 5;slack 6");
        due("the last law", 0, x.count(2));
        due("the last slack", 6, x.count(3));
    }

    private static void leagueIsAsAtFirst() {
        PoundBoys x = Check.told("league 4;town 0 1 2 3;want 0 1;next 0 2;slack 9;none;plain 0 9 1 1;plain 1 9 1 1");
        x.go(3);
        Check.tell(x, "league 4");
        int[] counts = {4, 0, 0, 0, 0, 0, 0, 0, 0};
        for (int what = 0; what < counts.length; what++) {
            due("league 4: count(" + what + ")", counts[what], x.count(what));
        }
        for (int town = 0; town < 4; town++) {
            int[] first = {0, 1, 1, NONE, (town + 1) % 4, MORE, 0};
            for (int what = 0; what < first.length; what++) {
                due("league 4: town(" + town + ", " + what + ")", first[what], x.town(town, what));
            }
        }
        Check.tell(x, "league 2");
        due("next of the last one", 0, x.town(1, 4));
        due("no third town", UNKNOWN, x.town(2, 4));
        Check.tell(x, "league 6");
        due("next of what was the last one", 2, x.town(1, 4));
        due("next of the last one", 0, x.town(5, 4));
    }

    private static void textsBehindTexts() {
        PoundBoys x = Check.told("town 0 1 2 3;want 0 1;next 0 2;slack 9;light;plain 0 9 1 1", "town 0 2 3 0");
        int[] town = {2, 3, 0, 1, 2, MORE, 1};
        for (int what = 0; what < town.length; what++) {
            due("town(0, " + what + ") behind a second text", town[what], x.town(0, what));
        }
        due("law stays", 1, x.count(2));
        due("slack stays", 9, x.count(3));
        Check.tell(x, "fool 1 8 0 0");
        due("boys come behind those that there are", 2, x.count(1));
        due("kind of the second", 1, x.boy(1, 0));
        due("town of the first", 0, x.boy(0, 1));
    }

    private static void whatATextEnds() {
        PoundBoys x = Check.told("league 2;town 0 0 2 3;slack 999;plain 0 20 1 3;plain 1 20 1 3");
        due("give", 1, x.give(0, 1));
        due("give", 2, x.give(1, 0));
        due("deal", 2, x.deal());
        due("cheese", MORE + 20, x.town(0, 5));
        x.go(2);
        x.keep(0);
        x.keep(1);
        due("give", 1, x.give(0, 1 - x.boy(0, 1)));
        x.weigh(0, 0, 5);
        x.road(5, 0);
        Check.write(x, "slack 5;x");
        due("a text with a fault", NOT, x.league());
        int[] still = {2, 2, 0, 999, 1, 2, 1, 1, 9};
        for (int what = 0; what < still.length; what++) {
            due("behind a fault: count(" + what + ")", still[what], x.count(what));
        }
        due("behind a fault there is what was kept", 2, x.back(1));
        x.erase();
        Check.tell(x, "slack 5");
        int[] counts = {2, 2, 0, 5, 0, 0, 0, 0, 0};
        for (int what = 0; what < counts.length; what++) {
            due("behind a text: count(" + what + ")", counts[what], x.count(what));
        }
        int[] boy = {0, 0, 20, 1, 3, 40};
        for (int what = 0; what < boy.length; what++) {
            due("as told: boy(0, " + what + ")", boy[what], x.boy(0, what));
        }
        due("no cheese", MORE, x.town(0, 5));
        due("no cheese", MORE, x.town(1, 5));
        due("nothing is kept", NOT, x.back(0));
        due("nothing is kept", NOT, x.back(1));
        due("give", 1, x.give(0, 1));
        Check.tell(x, "slack 5");
        due("no exchange is told", 0, x.count(4));
    }

    private static void town() {
        PoundBoys x = Check.told("league 2;plain 1 9 0 0;half 1 9 0 0");
        due("boys of town 0", 0, x.town(0, 6));
        due("boys of town 1", 2, x.town(1, 6));
        due("town(-1, 0)", UNKNOWN, x.town(-1, 0));
        due("town(2, 0)", UNKNOWN, x.town(2, 0));
        due("town(2, 7)", UNKNOWN, x.town(2, 7));
        due("town(1, 7)", OUTSIDE, x.town(1, 7));
        due("town(1, -1)", OUTSIDE, x.town(1, -1));
        due("town(most, 0)", UNKNOWN, x.town(Integer.MAX_VALUE, 0));
        due("town(least, 0)", UNKNOWN, x.town(Integer.MIN_VALUE, 0));
        due("town(0, most)", OUTSIDE, x.town(0, Integer.MAX_VALUE));
    }

    private static void boy() {
        PoundBoys x = Check.told("town 2 0 9 1;plain 2 99 3 9;fool 2 98 2 8;half 2 97 1 7;prodigy 2 1 0 0;half 2 1 0 0");
        int[][] boys = {
            {0, 2, 99, 3, 9, 891}, {1, 2, 98, 2, 8, 882}, {2, 2, 97, 1, 7, 432}, {3, 2, 1, 0, 0, 9}, {2, 2, 1, 0, 0, 0}
        };
        for (int boy = 0; boy < boys.length; boy++) {
            for (int what = 0; what < 6; what++) {
                due("boy(" + boy + ", " + what + ")", boys[boy][what], x.boy(boy, what));
            }
        }
        due("boy(5, 0)", UNKNOWN, x.boy(5, 0));
        due("boy(-1, 0)", UNKNOWN, x.boy(-1, 0));
        due("boy(5, 6)", UNKNOWN, x.boy(5, 6));
        due("boy(4, 6)", OUTSIDE, x.boy(4, 6));
        due("boy(4, -1)", OUTSIDE, x.boy(4, -1));
        due("boy(most, 0)", UNKNOWN, x.boy(Integer.MAX_VALUE, 0));
        due("boy(least, 0)", UNKNOWN, x.boy(Integer.MIN_VALUE, 0));
    }

    private static void as() {
        PoundBoys x = Check.told("plain 0 31 0 0;fool 0 31 0 0;half 0 31 0 0;prodigy 0 31 0 0");
        int[][] pounds = {{31, 31, NOT, NOT, NOT}, {31, 31, 31, NOT, NOT}, {15, 15, NOT, 15, NOT}, {31, NOT, NOT, NOT, 31}};
        for (int boy = 0; boy < 4; boy++) {
            for (int kind = 0; kind < 5; kind++) {
                due("as(" + boy + ", " + kind + ")", pounds[boy][kind], x.as(boy, kind));
            }
            due("as(" + boy + ", 5)", OUTSIDE, x.as(boy, 5));
            due("as(" + boy + ", -1)", OUTSIDE, x.as(boy, -1));
        }
        due("as(4, 0)", UNKNOWN, x.as(4, 0));
        due("as(4, 5)", UNKNOWN, x.as(4, 5));
        due("as(-1, 0)", UNKNOWN, x.as(-1, 0));
        due("as(0, most)", OUTSIDE, x.as(0, Integer.MAX_VALUE));
        due("as(0, least)", OUTSIDE, x.as(0, Integer.MIN_VALUE));
    }

    private static void count() {
        PoundBoys x = Check.told("league 5;least;slack 44;plain 0 5 0 0;plain 1 5 0 0;plain 2 5 0 0");
        x.go(7);
        x.give(0, 4);
        x.give(1, 4);
        x.weigh(0, 0, 1);
        for (int i = 0; i < 4; i++) {
            x.road(1, 1);
        }
        x.write(0, 6);
        int[] counts = {5, 3, 2, 44, 2, 7, 1, 4, 6};
        for (int what = 0; what < counts.length; what++) {
            due("count(" + what + ")", counts[what], x.count(what));
        }
        due("count(9)", OUTSIDE, x.count(9));
        due("count(-1)", OUTSIDE, x.count(-1));
        due("count(most)", OUTSIDE, x.count(Integer.MAX_VALUE));
    }
}
