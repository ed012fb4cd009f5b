/** "Terms", sections 2 and 3: exchanges, years, what is foretold, scales and the road, each bound from both sides. */
public final class LeagueBoundsTest {
    private static final int NONE = -1, NOT = -4, FULL = -5, MORE = 10000000;
    private static final String[] KINDS = {"plain", "fool", "half", "prodigy"};

    public static void main(String[] args) {
        poundsOfAHalfAreCut();
        worthIsByTheTownWhereHeIs();
        kindsOverOneAnother();
        closesByNumbers();
        closesBySlackOfOneTown();
        closesByTheMostSlack();
        cheeseIsBalanceLess();
        dealOfSixTowns();
        weightHasItsBounds();
        gradesOfACraft();
        gradesOfAnotherCraft();
        oneWeightForAYear();
        lentSendsOne();
        ofSeveralTheLeastNumber();
        lentWithoutAny();
        lentThatDoesNotClose();
        yearsInAll();
        keptTwice();
        foretoldAtItsBounds();
        townsByBits();
        ringOfTwoAtLeast();
        ringOfLeastCheese();
        ringOfTheFirstRow();
        ringOfSix();
        paysOfSeveralTheLeastFood();
        paysByItsBoysNow();
        gainersAreThoseOfLess();
        falseIsNotNought();
        falseAlone();
        falseIsTheSameEachTime();
        twelveOnTheScales();
        roadByWeight();
        roadOfUnlikeBoys();
        fiveHundredAndTwelveCalls();
        Check.end();
    }

    private static void due(String call, long want, long got) {
        Check.due(call, want, got);
    }

    // ---- section 2

    /** "of a HALF one half of that (cut)". */
    private static void poundsOfAHalfAreCut() {
        int[][] halves = {{1, 0}, {2, 1}, {3, 1}, {4, 2}, {98, 49}, {99, 49}};
        for (int[] half : halves) {
            PoundBoys x = Check.told("town 0 0 9 1;half 0 " + half[0] + " 0 0;plain 0 " + half[0] + " 0 0");
            due("pounds of a half of " + half[0], half[1], x.as(0, 3));
            due("worth of a half of " + half[0], half[1] * 9, x.boy(0, 5));
            due("pounds of a plain of " + half[0], half[0], x.as(1, 1));
            due("worth of a plain of " + half[0], half[0] * 9, x.boy(1, 5));
            due("his weight is told whole", half[0], x.boy(0, 2));
        }
    }

    private static void worthIsByTheTownWhereHeIs() {
        PoundBoys x = Check.told("town 0 0 1 1;town 1 0 9 1;plain 0 9 0 0;plain 1 1 0 0");
        due("worth at home", 9, x.boy(0, 5));
        x.give(0, 1);
        x.give(1, 0);
        due("told is not gone", 9, x.boy(0, 5));
        due("deal()", 2, x.deal());
        due("worth where he is now", 81, x.boy(0, 5));
        due("worth where the other is now", 1, x.boy(1, 5));
    }

    /** "BOY (0); PLAIN (1) under it; FOOL (2) is PLAIN; HALF (3) is PLAIN; PRODIGY (4) is a BOY". */
    private static void kindsOverOneAnother() {
        int[] kinds = {0b00011, 0b00111, 0b01011, 0b10001};
        for (int kind = 0; kind < 4; kind++) {
            PoundBoys x = Check.told(KINDS[kind] + " 0 7 0 0");
            for (int as = 0; as < 5; as++) {
                boolean isOne = (kinds[kind] >> as & 1) == 1;
                due(KINDS[kind] + " as " + as, !isOne ? NOT : kind == 2 ? 3 : 7, x.as(0, as));
            }
        }
    }

    /** "each TOWN gets as many BOYS as it gives": though no cheese is owed. */
    private static void closesByNumbers() {
        PoundBoys x = Check.told("plain 0 20 0 0;plain 1 10 0 0;plain 1 10 0 0;half 2 1 0 0");
        x.give(3, 1);
        due("one of no worth comes to 1", 1, x.judge());
        due("he is of no worth", MORE, x.balance(1));
        due("deal()", NOT, x.deal());
        x.drop();
        x.give(3, 0);
        due("one of no worth comes to 0", 0, x.judge());
        x.drop();
        x.give(0, 1);
        x.give(1, 0);
        x.give(2, 0);
        due("one for two of the same worth", 0, x.judge());
        due("balance of 0", MORE, x.balance(0));
        due("balance of 1", MORE, x.balance(1));
        due("deal()", NOT, x.deal());
        PoundBoys free = Check.told("league 4;slack 999;plain 2 20 0 0;plain 3 20 0 0");
        free.give(0, 3);
        due("the first town of all", 2, free.judge());
        free.give(1, 2);
        due("it closes", NONE, free.judge());
    }

    /** Boys of these weights go 0 to 1, 1 to 2, 2 to 0. */
    private static int judged(int slack, int first, int second, int third) {
        PoundBoys x = Check.told("slack " + slack + ";plain 0 " + first + " 0 0;plain 1 " + second + " 0 0;plain 2 " + third + " 0 0");
        x.give(0, 1);
        x.give(1, 2);
        x.give(2, 0);
        int town = x.judge();
        due("deal() goes by judge()", town == NONE ? 3 : NOT, x.deal());
        due("who went is there", town == NONE ? 1 : 0, x.boy(0, 1));
        due("who went is there", town == NONE ? 0 : 2, x.boy(2, 1));
        return town;
    }

    /** "not above SLACK, nor below it with a minus": 4 and -4 of one town, -2 and 2 of the others. */
    private static void closesBySlackOfOneTown() {
        int[][] weights = {{10, 12, 14}, {14, 10, 12}, {12, 14, 10}, {14, 12, 10}, {10, 14, 12}, {12, 10, 14}};
        for (int i = 0; i < 6; i++) {
            int[] w = weights[i];
            due("slack 3, town " + i % 3 + " alone", i % 3, judged(3, w[0], w[1], w[2]));
            due("slack 4", NONE, judged(4, w[0], w[1], w[2]));
            due("slack 1, the first of all", 0, judged(1, w[0], w[1], w[2]));
        }
        due("slack 0, none owes", NONE, judged(0, 9, 9, 9));
        due("slack 0, one pound", 0, judged(0, 9, 9, 10));
        due("slack 0, one pound", 1, judged(0, 9, 10, 9));
        due("slack 0, one pound", 0, judged(0, 10, 9, 9));
    }

    private static void closesByTheMostSlack() {
        for (int given = 8; given <= 9; given++) {
            PoundBoys x = Check.told("league 2;slack 999;town 1 0 9 1",
                "plain 1 99 0 0;plain 1 13 0 0;plain 0 4 0 0;plain 0 " + (given - 4) + " 0 0");
            x.give(0, 0);
            x.give(1, 0);
            x.give(2, 1);
            x.give(3, 1);
            due("balance of 0", MORE + 1008 - given, x.balance(0));
            due("balance of 1", MORE - 1008 + given, x.balance(1));
            due("slack 999, balance " + (1008 - given), given == 9 ? NONE : 0, x.judge());
            due("deal()", given == 9 ? 4 : NOT, x.deal());
        }
    }

    /** "each TOWN's CHEESE is BALANCE less", and so again. */
    private static void cheeseIsBalanceLess() {
        PoundBoys x = Check.told("league 2;slack 999;town 1 0 2 1;plain 0 30 0 0;plain 1 5 0 0");
        int[] cheese = {20, -35, -15, -70};
        for (int i = 0; i < cheese.length; i++) {
            x.give(0, 1 - x.boy(0, 1));
            x.give(1, 1 - x.boy(1, 1));
            due("deal() " + i, 2, x.deal());
            due("cheese of 0 behind deal " + i, MORE + cheese[i], x.town(0, 5));
            due("cheese of 1 behind deal " + i, MORE - cheese[i], x.town(1, 5));
        }
    }

    private static void dealOfSixTowns() {
        PoundBoys x = Check.told("league 6;slack 9;plain 0 9 0 0;plain 1 8 0 0;plain 2 7 0 0;plain 3 6 0 0;plain 4 5 0 0;plain 5 4 0 0");
        for (int boy = 0; boy < 6; boy++) {
            due("give", boy + 1, x.give(boy, (boy + 1) % 6));
        }
        due("deal()", 6, x.deal());
        int[] cheese = {5, -1, -1, -1, -1, -1};
        for (int town = 0; town < 6; town++) {
            due("cheese of " + town, MORE + cheese[town], x.town(town, 5));
            due("town of " + town, (town + 1) % 6, x.boy(town, 1));
        }
    }

    /** "one less and FOOD of his TOWN more (1 .. 99: no less, no more)". */
    private static void weightHasItsBounds() {
        int[][] years = {
            {0, 1, 1}, {0, 2, 1}, {0, 3, 2}, {0, 99, 98}, {1, 1, 1}, {1, 2, 2}, {1, 98, 98}, {1, 99, 99}, {2, 1, 2}, {2, 97, 98},
            {2, 98, 99}, {2, 99, 99}, {3, 1, 3}, {3, 96, 98}, {3, 97, 99}, {3, 98, 99}, {3, 99, 99}
        };
        for (int[] year : years) {
            PoundBoys x = Check.told("none;town 0 0 1 " + year[0] + ";plain 0 " + year[1] + " 0 0;half 0 " + year[1] + " 0 0");
            due("foretold, food " + year[0] + ", weight " + year[1], year[2], x.later(0, 1, 1));
            x.go(1);
            due("food " + year[0] + ", weight " + year[1], year[2], x.boy(0, 2));
            due("of a half also", year[2], x.boy(1, 2));
        }
    }

    /** "if it is the TOWN's CRAFT, GRADE is one more (of a FOOL not, of a PRODIGY two; 9 at most)". */
    private static void gradesOfACraft() {
        int[] more = {1, 0, 1, 2};
        for (int kind = 0; kind < 4; kind++) {
            for (int grade = 0; grade <= 9; grade++) {
                PoundBoys x = Check.told("none;town 1 3 1 1;" + KINDS[kind] + " 1 50 3 " + grade);
                x.go(1);
                due(KINDS[kind] + " of grade " + grade, Math.min(9, grade + more[kind]), x.boy(0, 4));
                due("his skill stays", 3, x.boy(0, 3));
            }
        }
    }

    /** "else it is one less (0 stays), and as it is 0 then, SKILL becomes that CRAFT". */
    private static void gradesOfAnotherCraft() {
        for (int kind = 0; kind < 4; kind++) {
            for (int grade = 0; grade <= 9; grade++) {
                PoundBoys x = Check.told("none;town 1 3 1 1;" + KINDS[kind] + " 1 50 2 " + grade);
                x.go(1);
                due(KINDS[kind] + " of grade " + grade, grade == 0 ? 0 : grade - 1, x.boy(0, 4));
                due("skill of one of grade " + grade, grade <= 1 ? 3 : 2, x.boy(0, 3));
            }
        }
    }

    /** Weight and skill go by the town where he was, ahead of Lent; and the law by what they became. */
    private static void oneWeightForAYear() {
        PoundBoys x = Check.told("town 0 1 1 3;town 1 2 1 0;plain 0 50 0 4");
        x.go(1);
        due("he went", 1, x.boy(0, 1));
        due("fed where he was", 52, x.boy(0, 2));
        due("taught where he was", 3, x.boy(0, 4));
        PoundBoys least = Check.told("least;town 0 1 1 1;plain 0 50 1 3;plain 0 50 0 4;plain 0 50 0 5");
        least.go(1);
        due("the grades were 4, 3, 4 at Lent", 1, least.boy(1, 1));
        due("the first one stays", 0, least.boy(0, 1));
        PoundBoys heavy = Check.told("heavy;town 0 0 1 2;plain 0 99 0 0;plain 0 98 0 0");
        heavy.go(1);
        due("both were of 99 at Lent", 1, heavy.boy(0, 1));
        PoundBoys light = Check.told("light;town 0 0 1 0;plain 0 2 0 0;plain 0 1 0 0");
        light.go(1);
        due("both were of 1 at Lent", 1, light.boy(0, 1));
    }

    /** Which of the boys of town 0 go to town 1 in a year, by bits. */
    private static int sent(String law, String boys) {
        PoundBoys x = Check.told(law, boys);
        x.go(1);
        int bits = 0;
        for (int boy = 0; boy < x.count(1); boy++) {
            bits |= x.boy(boy, 1) == 1 ? 1 << boy : 0;
        }
        return bits;
    }

    private static void lentSendsOne() {
        String up = "plain 0 10 0 1;fool 0 11 0 3;half 0 12 0 4";
        String down = "half 0 12 0 4;fool 0 11 0 3;plain 0 10 0 1";
        due("heavy, the last", 4, sent("heavy", up));
        due("heavy, the first", 1, sent("heavy", down));
        due("light, the first", 1, sent("light", up));
        due("light, the last", 4, sent("light", down));
        due("least, the first", 1, sent("least", up));
        due("least, the last", 4, sent("least", down));
        due("none", 0, sent("none", up));
        due("heavy goes by weight, not by pounds", 1, sent("heavy", "half 0 31 0 0;plain 0 30 0 0"));
        due("light goes by weight, not by pounds", 2, sent("light", "half 0 31 0 0;plain 0 30 0 0"));
    }

    /** "of several the least number". */
    private static void ofSeveralTheLeastNumber() {
        due("heavy", 2, sent("heavy", "plain 0 9 0 5;plain 0 10 0 5;half 0 10 0 5;plain 0 9 0 5"));
        due("light", 2, sent("light", "plain 0 9 0 5;plain 0 8 0 5;half 0 8 0 5;plain 0 9 0 5"));
        due("least", 2, sent("least", "plain 0 9 0 5;plain 0 9 0 4;half 0 9 0 4;plain 0 9 0 5"));
    }

    /** "one of its BOYS that are no PRODIGIES", "(none, if it has none)". */
    private static void lentWithoutAny() {
        for (String law : new String[] {"heavy", "light", "least"}) {
            due(law + ": no boys", 0, sent(law, "plain 2 9 0 0"));
            due(law + ": prodigies alone", 0, sent(law, "prodigy 0 9 0 0;prodigy 0 99 0 9"));
            due(law + ": a prodigy ahead", 2, sent(law, "prodigy 0 9 0 4;plain 0 9 0 5;prodigy 0 9 0 4"));
            due(law + ": prodigies of more and less", 2, sent(law, "prodigy 0 99 0 0;plain 0 50 0 5;prodigy 0 1 0 0"));
            PoundBoys x = Check.told("league 6;" + law);
            due(law + ": a league without boys", 99, x.go(99));
            due(law + ": no cheese", MORE, x.town(5, 5));
        }
    }

    /** "CHEESE of each becomes BALANCE less (as in an EXCHANGE, whether that CLOSES or not)". */
    private static void lentThatDoesNotClose() {
        PoundBoys x = Check.told("town 1 0 9 1;half 1 99 0 0;plain 0 7 0 0");
        x.go(1);
        due("cheese of 0: gave 7", MORE + 7, x.town(0, 5));
        due("cheese of 1: gave 49 by 9, got 7", MORE + 441 - 7, x.town(1, 5));
        due("cheese of 2: got 441", MORE - 441, x.town(2, 5));
        PoundBoys none = Check.told("none;plain 0 9 0 0");
        none.go(50);
        due("nobody went", MORE, none.town(0, 5));
        due("nobody went", 0, none.boy(0, 1));
    }

    /** "FULL: above 999 in all". */
    private static void yearsInAll() {
        PoundBoys x = new PoundBoys();
        for (int i = 1; i <= 9; i++) {
            due("go(99)", 99 * i, x.go(99));
        }
        due("go(9)", 900, x.go(9));
        x.keep(0);
        due("go(99) to 999", 999, x.go(99));
        due("go(1) at 999", FULL, x.go(1));
        due("back(0)", 900, x.back(0));
        due("go(1) at 900", 901, x.go(1));
        due("go(99) at 901", FULL, x.go(99));
        due("it is 901 still", 901, x.count(5));
        due("go(98) at 901", 999, x.go(98));
        due("keep(1) at 999", 999, x.keep(1));
        due("back(1) at 999", 999, x.back(1));
        Check.tell(x, "heavy");
        due("a text is YEAR 0", 0, x.count(5));
        due("go(99) at 0", 99, x.go(99));
    }

    private static void keptTwice() {
        PoundBoys x = Check.told("town 0 0 3 2;plain 0 20 0 1;half 1 33 1 4");
        x.keep(0);
        x.go(7);
        x.keep(1);
        x.go(7);
        PoundBoys none = Check.told("town 0 0 3 2;plain 0 20 0 1;half 1 33 1 4");
        PoundBoys seven = Check.told("town 0 0 3 2;plain 0 20 0 1;half 1 33 1 4");
        seven.go(7);
        due("back(0)", 0, x.back(0));
        State.same("back(0)", State.of(none), State.of(x));
        due("back(1)", 7, x.back(1));
        State.same("back(1)", State.of(seven), State.of(x));
        due("keep(0) of what was kept in 1", 7, x.keep(0));
        due("go(1)", 8, x.go(1));
        due("back(0)", 7, x.back(0));
        due("cheese", seven.town(0, 5), x.town(0, 5));
    }

    // ---- section 3

    private static PoundBoys aLeague(String law) {
        return Check.told(law + ";league 3;" + law + ";town 0 0 3 2;town 1 1 1 0;town 2 2 5 3",
            "plain 0 33 0 4;plain 1 98 1 6;fool 2 20 2 1;half 0 75 1 4;prodigy 1 44 3 3");
    }

    /** "in t YEARS (0 .. 99)": 0 is now, 99 is what comes by 99 years. */
    private static void foretoldAtItsBounds() {
        for (String law : new String[] {"heavy", "light", "least", "none"}) {
            for (int t : new int[] {0, 1, 98, 99}) {
                PoundBoys x = aLeague(law);
                PoundBoys then = aLeague(law);
                due("years", t, t == 0 ? 0 : then.go(t));
                for (int boy = 0; boy < 5; boy++) {
                    for (int what = 0; what < 4; what++) {
                        due(law + ": later(" + boy + ", " + t + ", " + what + ")", then.boy(boy, what + 1), x.later(boy, t, what));
                    }
                }
                int bits = 0;
                for (int town = 0; town < 3; town++) {
                    due(law + ": owed(" + town + ", " + t + ")", then.town(town, 5), x.owed(town, t));
                    bits |= then.town(town, 6) == 0 ? 1 << town : 0;
                }
                due(law + ": without(" + t + ")", bits, x.without(t));
                State.same(law + ": nothing changed", State.of(aLeague(law)), State.of(x));
            }
        }
    }

    private static void townsByBits() {
        for (int town = 0; town < 6; town++) {
            PoundBoys x = Check.told("league 6;none;plain " + town + " 9 0 0");
            due("all but town " + town, 63 - (1 << town), x.without(0));
            due("in 99 years", 63 - (1 << town), x.without(99));
        }
        PoundBoys full = Check.told("league 6;plain 0 9 0 0;plain 1 9 0 0;plain 2 9 0 0;plain 3 9 0 0;plain 4 9 0 0;plain 5 9 0 0");
        due("no town is without", 0, full.without(0));
        due("no town is without in 99 years", 0, full.without(99));
    }

    private static void ringIs(PoundBoys x, int cheese, int... boys) {
        due("ring(0)", cheese, x.ring(0));
        due("ring(1)", boys.length == 0 ? NONE : boys.length, x.ring(1));
        for (int i = 0; i < 6; i++) {
            due("ring(" + (10 + i) + ")", i < boys.length ? boys[i] : NONE, x.ring(10 + i));
        }
    }

    /** "TOWNS, each once, two at least". */
    private static void ringOfTwoAtLeast() {
        ringIs(Check.told("want 0 0;plain 0 9 0 0"), NONE);
        ringIs(Check.told("want 0 0;plain 0 9 0 0;plain 0 9 0 0"), NONE);
        ringIs(Check.told("want 0 0;want 1 0;plain 0 9 0 0;plain 0 9 0 0"), NONE);
        ringIs(Check.told("want 0 0;want 1 0;plain 0 9 0 0;plain 1 9 0 0"), 0, 0, 1);
        ringIs(Check.told("want 0 0;want 1 1;plain 0 9 1 0;plain 1 9 1 0"), NONE);
        ringIs(Check.told("want 0 0;plain 0 9 0 0;plain 1 9 0 0"), NONE);
        // The row 0 1 2 3 would be ahead, but town 1 is in it twice.
        ringIs(Check.told("want 0 1;want 1 2;want 2 3;plain 0 9 2 0;plain 1 9 3 0;plain 2 9 2 0;plain 1 9 1 0"), 0, 0, 3);
    }

    /** "for the least CHEESE (BALANCES above 0, together)". */
    private static void ringOfLeastCheese() {
        String wants = "league 3;want 0 2;want 1 0;want 2 1";
        ringIs(Check.told(wants + ";plain 0 18 0 0;plain 1 15 1 0;plain 2 10 2 0"), 8, 0, 1, 2);
        ringIs(Check.told(wants + ";plain 0 10 0 0;plain 1 15 1 0;plain 2 18 2 0"), 8, 0, 1, 2);
        ringIs(Check.told(wants + ";plain 0 10 0 0;plain 1 10 1 0;plain 2 10 2 0"), 0, 0, 1, 2);
        ringIs(Check.told(wants + ";plain 0 10 0 0;plain 1 10 1 0;plain 2 19 2 0;plain 2 12 2 0;plain 2 13 2 0"), 2, 0, 1, 3);
        // 2 also for 2 1 (towns 1 and 2), more for all others.
        String both = "league 3;want 0 0;want 1 0;want 2 0;plain 0 10 0 0;plain 2 12 0 0;plain 1 14 0 0";
        ringIs(Check.told(both), 2, 0, 1);
        // 4 for 0 2 and for 0 1 2.
        String longer = "league 3;want 0 2;want 1 0;want 2 0;plain 0 10 0 0;plain 1 8 0 0;plain 2 6 2 0";
        ringIs(Check.told(longer), 4, 0, 1, 2);
        ringIs(Check.told(longer + ";prodigy 0 7 0 0"), 1, 3, 2);
    }

    /** "of several that with the first row of BOYS (from the one of the least TOWN of the ring on; ..)". */
    private static void ringOfTheFirstRow() {
        // 0 1 2 is ahead of 0 2, though it is longer; 0 1 is none, as town 0 wants another skill.
        ringIs(Check.told("want 0 1;want 1 0;want 2 0;plain 0 9 0 0;plain 1 9 0 0;plain 2 9 1 0"), 0, 0, 1, 2);
        // 0 2 is ahead of 0 2 1, which it begins.
        ringIs(Check.told("want 0 1;want 1 1;want 2 0;plain 0 9 0 0;plain 1 9 1 0;plain 2 9 1 0"), 0, 0, 2);
        ringIs(Check.told("want 0 0;want 1 0;want 2 0;plain 0 9 0 0;plain 1 9 0 0;plain 2 9 0 0"), 0, 0, 1);
        // The row begins with the boy of the least town, whatever his number.
        ringIs(Check.told("want 0 0;want 1 0;plain 1 9 0 0;plain 0 9 0 0"), 0, 1, 0);
        ringIs(Check.told("want 0 0;want 1 0;plain 1 9 0 0;plain 1 9 0 0;plain 0 9 0 0;plain 0 9 0 0"), 0, 2, 0);
        ringIs(Check.told("league 4;want 1 0;want 2 0;want 3 0;plain 3 9 0 0;plain 2 9 0 0;plain 1 9 0 0"), 0, 1, 0);
        // Less cheese is ahead of a first row.
        ringIs(Check.told("want 0 0;want 1 0;plain 0 9 0 0;plain 1 8 0 0;plain 0 7 0 0;plain 1 7 0 0"), 0, 2, 3);
    }

    private static void ringOfSix() {
        String wants = "league 6;want 0 3;want 1 0;want 2 1;want 3 2;want 4 0;want 5 1";
        String five = "plain 0 10 0 0;plain 1 10 1 0;plain 2 10 2 0;plain 3 5 0 0;plain 4 5 1 0";
        ringIs(Check.told(wants, five + ";plain 5 5 3 0"), 5, 0, 1, 2, 3, 4, 5);
        ringIs(Check.told(wants, five), 5, 1, 2, 3);
    }

    private static void paysIs(PoundBoys x, int t, int p, int food, int gain) {
        due("pays(0, " + t + ", " + p + ", 0)", food, x.pays(0, t, p, 0));
        due("pays(0, " + t + ", " + p + ", 1)", MORE + gain, x.pays(0, t, p, 1));
    }

    /** "of several the least FOOD", at both bounds of t, of p and of a WEIGHT. */
    private static void paysOfSeveralTheLeastFood() {
        PoundBoys none = new PoundBoys();
        paysIs(none, 1, 0, 0, 0);
        paysIs(none, 9, 99, 0, 0);
        PoundBoys one = Check.told("town 0 0 2 1;plain 0 50 0 0");
        paysIs(one, 1, 0, 3, 52 * 2);
        paysIs(one, 9, 0, 3, 68 * 2);
        paysIs(one, 1, 1, 3, 52 * 2 - 3);
        paysIs(one, 9, 1, 3, 68 * 2 - 27);
        paysIs(one, 1, 2, 0, 49 * 2);
        paysIs(one, 9, 2, 0, 41 * 2);
        paysIs(one, 1, 3, 0, 49 * 2);
        paysIs(one, 9, 99, 0, 41 * 2);
        PoundBoys light = Check.told("plain 0 1 0 0");
        paysIs(light, 9, 0, 3, 19);
        paysIs(light, 9, 1, 0, 1);
        paysIs(light, 1, 0, 3, 3);
        PoundBoys heavy = Check.told("plain 0 99 0 0");
        paysIs(heavy, 1, 0, 1, 99);
        paysIs(heavy, 9, 0, 1, 99);
        paysIs(heavy, 1, 1, 0, 98);
        PoundBoys nearly = Check.told("plain 0 98 0 0");
        paysIs(nearly, 1, 0, 2, 99);
        PoundBoys less = Check.told("plain 0 97 0 0");
        paysIs(less, 1, 0, 3, 99);
        paysIs(less, 2, 0, 2, 99);
        PoundBoys half = Check.told("half 0 2 0 0");
        paysIs(half, 1, 0, 3, 2);
        PoundBoys cut = Check.told("half 0 3 0 0");
        paysIs(cut, 1, 0, 2, 2);
        paysIs(cut, 2, 0, 3, 3);
        PoundBoys all = Check.told("town 0 0 9 3;half 0 1 0 0;half 0 1 0 0;half 0 1 0 0");
        paysIs(all, 1, 9, 0, 0);
        paysIs(all, 2, 1, 3, 2 * 3 * 9 - 18);
    }

    /** "POUNDS of its BOYS now", "if nobody went to any other TOWN"; by its RATE, whatever its FOOD and the law are. */
    private static void paysByItsBoysNow() {
        for (String law : new String[] {"heavy", "light", "least", "none"}) {
            for (int food = 0; food <= 3; food++) {
                PoundBoys x = Check.told(law + ";town 0 0 5 " + food + ";town 2 0 9 3;plain 0 20 0 0;prodigy 0 30 0 0;plain 2 40 0 0");
                paysIs(x, 3, 2, 3, (26 + 36) * 5 - 2 * 3 * 2 * 3);
                paysIs(x, 3, 5, 0, (17 + 27) * 5);
            }
        }
        PoundBoys x = Check.told("heavy;plain 0 20 0 0;plain 0 30 0 0;plain 2 40 0 0");
        x.go(1);
        due("the one of 30 went, the one of 40 came", 2, x.town(0, 6));
        paysIs(x, 1, 0, 3, 22 + 42);
    }

    /** "TOWNS whose CHEESE in t YEARS is less than it will be else": not those of the same, nor of more. */
    private static void gainersAreThoseOfLess() {
        PoundBoys x = Check.told("town 0 0 5 1;plain 0 10 0 0");
        for (int rate = 1; rate <= 9; rate++) {
            int want = rate < 5 ? 1 : rate == 5 ? 0 : 2;
            due("gainers(0, " + rate + ", 1)", want, x.gainers(0, rate, 1));
            due("gainers(0, " + rate + ", 99)", want, x.gainers(0, rate, 99));
            due("gainers(1, " + rate + ", 1), who sends nobody", 0, x.gainers(1, rate, 1));
        }
        PoundBoys none = Check.told("none;town 0 0 5 1;plain 0 10 0 0");
        due("where nobody goes", 0, none.gainers(0, 9, 99));
        PoundBoys past = Check.told("league 2;town 0 0 5 1;plain 0 10 0 0");
        past.go(1);
        due("from now on, not from then", 0, past.gainers(0, 9, 1));
        due("from now on, as he is there again", 2, past.gainers(0, 9, 2));
        PoundBoys last = Check.told("league 6;plain 5 10 0 0");
        due("the last one", 32, Check.told("league 6;town 5 0 2 1;plain 5 10 0 0").gainers(5, 1, 1));
        due("whom the last one sends to", 1, last.gainers(5, 2, 1));
        due("what comes to the last one", 32, Check.told("league 6;plain 4 10 0 0").gainers(4, 2, 1));
    }

    private static PoundBoys weighed(int[]... rows) {
        PoundBoys x = Check.told("plain 0 9 0 0;plain 0 9 0 0;plain 0 9 0 0");
        for (int i = 0; i < rows.length; i++) {
            due("weigh", i + 1, x.weigh(rows[i][0], rows[i][1], rows[i][2]));
        }
        return x;
    }

    private static void scalesAre(int falseOnes, int allTrue, int[]... rows) {
        PoundBoys x = weighed(rows);
        due("scales(0)", falseOnes, x.scales(0));
        due("scales(1)", allTrue, x.scales(1));
    }

    private static int[] row(int town, int boy, int w) {
        return new int[] {town, boy, w};
    }

    /** "the same number more, or less, each time, not 0". */
    private static void falseIsNotNought() {
        scalesAre(7, 1);
        scalesAre(4, 1, row(0, 0, 50), row(1, 0, 50));
        scalesAre(3, 0, row(0, 0, 50), row(1, 0, 51));
        scalesAre(3, 0, row(0, 0, 50), row(1, 0, 49));
        scalesAre(0, 1, row(0, 0, 50), row(1, 0, 50), row(2, 0, 50));
        scalesAre(4, 0, row(0, 0, 50), row(1, 0, 50), row(2, 0, 51));
        scalesAre(4, 0, row(0, 0, 50), row(1, 0, 50), row(2, 0, 49));
        scalesAre(2, 0, row(0, 0, 50), row(1, 0, 49), row(2, 0, 50));
        scalesAre(1, 0, row(0, 0, 51), row(1, 0, 50), row(2, 0, 50));
        // One boy tells of 1 more, another one of 0 more.
        scalesAre(0, 0, row(0, 0, 50), row(1, 0, 51), row(0, 1, 50), row(1, 1, 50));
        scalesAre(0, 0, row(0, 1, 50), row(1, 1, 50), row(0, 0, 50), row(1, 0, 51));
    }

    /** "theirs alone is false", "all others TRUE". */
    private static void falseAlone() {
        scalesAre(0, 0, row(0, 0, 50), row(1, 0, 51), row(2, 0, 52));
        scalesAre(2, 0, row(0, 0, 50), row(1, 0, 51), row(1, 1, 61), row(2, 1, 60));
        // 1 and 2 do not agree of one boy, 0 and 1 of another one: it is 1, but not by two numbers.
        scalesAre(0, 0, row(0, 0, 50), row(1, 0, 51), row(1, 1, 61), row(2, 1, 62));
        // Boys weighed in one town alone tell nothing.
        scalesAre(7, 1, row(0, 0, 0), row(1, 1, 100), row(2, 2, 199));
        scalesAre(3, 0, row(0, 0, 0), row(1, 0, 199), row(2, 1, 7), row(1, 2, 3));
    }

    /** "each time": no scales show two numbers of the same boy. */
    private static void falseIsTheSameEachTime() {
        scalesAre(7, 1, row(0, 0, 50), row(0, 0, 50));
        scalesAre(0, 0, row(0, 0, 50), row(0, 0, 51));
        scalesAre(0, 0, row(0, 0, 50), row(1, 0, 51), row(1, 0, 52));
        scalesAre(3, 0, row(0, 0, 50), row(1, 0, 51), row(1, 0, 51));
        scalesAre(3, 0, row(0, 0, 50), row(1, 0, 51), row(0, 1, 60), row(1, 1, 61));
        scalesAre(0, 0, row(0, 0, 50), row(1, 0, 51), row(0, 1, 60), row(1, 1, 62));
        scalesAre(0, 0, row(0, 0, 50), row(1, 0, 51), row(0, 1, 60), row(1, 1, 59));
    }

    /** "SCALES, 12 at most", of w 0 .. 199: the twelfth counts as the first one does. */
    private static void twelveOnTheScales() {
        PoundBoys x = weighed();
        for (int i = 1; i <= 11; i++) {
            due("weigh", i, x.weigh(0, i % 3, 199));
        }
        due("eleven that are the same", 1, x.scales(1));
        due("the twelfth", 12, x.weigh(0, 1, 0));
        due("it is another one", 0, x.scales(1));
        due("of no town's scales", 0, x.scales(0));
        due("the thirteenth", FULL, x.weigh(0, 1, 0));
        due("forget()", 12, x.forget());
        due("weigh", 1, x.weigh(0, 1, 0));
        due("what was forgotten counts no more", 7, x.scales(0));
    }

    /** "of WEIGHT w, one more or one less": and not two. */
    private static void roadByWeight() {
        for (int w : new int[] {1, 2, 3, 50, 97, 98, 99}) {
            for (int weight = Math.max(1, w - 2); weight <= Math.min(99, w + 2); weight++) {
                PoundBoys x = Check.told("plain 0 5 1 0;plain 0 " + weight + " 0 0;half 0 " + weight + " 2 0");
                x.road(w, 0);
                boolean isHe = weight >= w - 1 && weight <= w + 1;
                due("road " + w + ", a boy of " + weight, isHe ? 1 : 0, x.who(NONE));
                due("who he can be", isHe ? 2 : 0, x.who(0));
                x.arrive();
                x.road(w, 2);
                due("a half goes by his weight", isHe ? 4 : 0, x.who(0));
            }
        }
        for (int skill = 0; skill <= 3; skill++) {
            PoundBoys x = Check.told("plain 0 9 0 0;plain 0 9 1 0;plain 0 9 2 0;plain 0 9 3 0");
            x.road(9, skill);
            due("of that skill", 1 << skill, x.who(0));
        }
    }

    /** "rows of unlike BOYS, one for each". */
    private static void roadOfUnlikeBoys() {
        PoundBoys x = Check.told("plain 0 20 0 0;plain 0 20 0 0;plain 0 22 0 0");
        x.road(20, 0);
        x.road(20, 0);
        due("two for two", 2, x.who(NONE));
        due("the first", 3, x.who(0));
        due("the second", 3, x.who(1));
        x.road(21, 0);
        due("a third, who is 2 alone", 2, x.who(NONE));
        due("the third", 4, x.who(2));
        x.road(21, 0);
        due("four of three", 0, x.who(NONE));
        for (int i = 0; i < 4; i++) {
            due("nobody", 0, x.who(i));
        }
        due("arrive()", 4, x.arrive());
        due("a row of none", 1, x.who(NONE));
        PoundBoys six = Check.told("league 2;plain 0 9 0 0;plain 0 9 0 0;plain 0 9 0 0;plain 0 9 0 0;plain 0 9 0 0;plain 1 9 0 0");
        for (int i = 1; i <= 6; i++) {
            due("road", i, six.road(9, 0));
        }
        due("a seventh", FULL, six.road(9, 0));
        due("six for six", 720, six.who(NONE));
        due("the sixth can be any", 63, six.who(5));
    }

    /** "An object is used for at most 512 calls": all of them are answered as the first ones are. */
    private static void fiveHundredAndTwelveCalls() {
        PoundBoys x = new PoundBoys();
        due("write", 8, x.write(Check.packed("none;ple"), 8));
        due("fault()", 5, x.fault());
        due("erase()", 8, x.erase());
        due("write", 8, x.write(Check.packed("fool 1 7"), 8));
        due("write", 12, x.write(Check.packed(" 0 0"), 4));
        due("league()", 1, x.league());
        for (int i = 0; i < 63; i++) {
            due("give()", 1, x.give(0, 2));
            due("drop()", 1, x.drop());
            due("weigh()", 1, x.weigh(0, 0, i));
            due("forget()", 1, x.forget());
            due("road()", 1, x.road(7, 0));
            due("who(0)", 1, x.who(0));
            due("arrive()", 1, x.arrive());
            due("keep()", 0, x.keep(i & 1));
        }
        due("call 511", 1, x.go(1));
        due("call 512", 2, x.boy(0, 1));
    }
}
