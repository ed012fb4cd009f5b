/** A league of towns that change apprentices each Lent, weight for weight by rates. */
public final class PoundBoys {
    public static final int NONE = -1, UNKNOWN = -2, OUTSIDE = -3, NOT = -4, FULL = -5;

    private static final int LEAST_TOWNS = 2, MOST_TOWNS = 6, FIRST_TOWNS = 3, MOST_BOYS = 10;
    private static final int MOST_BYTES = 200, BYTES_A_CALL = 8, MOST_LINES = 10, MOST_DIGITS = 3;
    private static final int LAST_CRAFT = 3, LEAST_RATE = 1, MOST_RATE = 9, MOST_FOOD = 3;
    private static final int LEAST_WEIGHT = 1, MOST_WEIGHT = 99, MOST_GRADE = 9, MOST_SLACK = 999;
    private static final int MOST_GIVEN = 8, MOST_WEIGHED = 12, MOST_SHOWN = 199, MOST_ON_ROAD = 6;
    private static final int YEARS_AT_ONCE = 99, MOST_YEARS = 999, YEARS_OF_FOOD = 9, MOST_PRICE = 99;
    private static final int KEEPS = 2, FIRST_OF_RING = 10;

    /** Cheese and balances may be below 0, answers below 0 are refusals: so they are told this much more. */
    private static final int TOLD_MORE = 10000000;

    private static final int PLAIN = 0, FOOL = 1, HALF = 2, PRODIGY = 3;
    private static final int HEAVY = 0, LIGHT = 1, LEAST = 2, NOBODY = 3;

    /** By kind: what a grade grows by in a year at the town's craft. */
    private static final int[] GROWTH = {1, 0, 1, 2};

    /** The tree of kinds (0 boy, 1 plain, 2 fool, 3 half, 4 prodigy): which one is over each. */
    private static final int[] KIND_OVER = {NONE, 0, 1, 1, 0};

    private final Text text = new Text();
    private final League league = new League();
    private final Reader reader = new Reader(text);
    private final Folk folk = new Folk();
    private final Folk[] kept = {new Folk(), new Folk()};
    private final boolean[] isKept = new boolean[KEEPS];
    private final Exchange exchange = new Exchange();
    private final Calendar calendar = new Calendar();
    private final RingSearch ringSearch = new RingSearch(folk, league);
    private final Folk ahead = new Folk();
    private final Folk aheadElse = new Folk();
    private final int[] otherRate = new int[MOST_TOWNS];
    private final Scales scales = new Scales();
    private final Road road = new Road();

    public PoundBoys() {
        league.begin(FIRST_TOWNS);
    }

    // ---- what is told

    public int write(long bytes, int n) {
        if (n < 1 || n > BYTES_A_CALL) {
            return OUTSIDE;
        }
        if (text.length + n > MOST_BYTES) {
            return FULL;
        }
        for (int i = 0; i < n; i++) {
            text.append((int) (bytes >> 8 * i & 255));
        }
        return text.length;
    }

    public int erase() {
        int had = text.length;
        text.length = 0;
        return had;
    }

    public int fault() {
        return reader.readFrom(league);
    }

    public int league() {
        if (reader.readFrom(league) != NONE) {
            return NOT;
        }
        league.become(reader.draft);
        beginAsTold();
        text.length = 0;
        return reader.lines;
    }

    private void beginAsTold() {
        folk.become(league.told);
        for (int k = 0; k < KEEPS; k++) {
            isKept[k] = false;
        }
        exchange.size = 0;
        scales.size = 0;
        road.size = 0;
    }

    public int town(int town, int what) {
        if (isNoTown(town)) {
            return UNKNOWN;
        }
        switch (what) {
            case 0: return league.craft[town];
            case 1: return league.rate[town];
            case 2: return league.food[town];
            case 3: return league.want[town];
            case 4: return league.next[town];
            case 5: return TOLD_MORE + folk.cheese[town];
            case 6: return folk.boysIn(town);
            default: return OUTSIDE;
        }
    }

    public int boy(int boy, int what) {
        if (isNoBoy(boy)) {
            return UNKNOWN;
        }
        switch (what) {
            case 0: return folk.kind[boy];
            case 1: return folk.town[boy];
            case 2: return folk.weight[boy];
            case 3: return folk.skill[boy];
            case 4: return folk.grade[boy];
            case 5: return folk.worth(boy, league.rate);
            default: return OUTSIDE;
        }
    }

    public int as(int boy, int kind) {
        if (isNoBoy(boy)) {
            return UNKNOWN;
        }
        if (isNotIn(kind, 0, KIND_OVER.length - 1)) {
            return OUTSIDE;
        }
        return folk.isOf(boy, kind) ? folk.pounds(boy) : NOT;
    }

    // ---- an exchange

    public int give(int boy, int town) {
        if (isNoBoy(boy) || isNoTown(town)) {
            return UNKNOWN;
        }
        if (folk.town[boy] == town) {
            return OUTSIDE;
        }
        if (exchange.has(boy)) {
            return NOT;
        }
        if (exchange.size >= MOST_GIVEN) {
            return FULL;
        }
        exchange.add(boy, town);
        return exchange.size;
    }

    public int drop() {
        int had = exchange.size;
        exchange.size = 0;
        return had;
    }

    public int balance(int town) {
        if (isNoTown(town)) {
            return UNKNOWN;
        }
        return TOLD_MORE + exchange.balanceOf(town, folk, league.rate);
    }

    public int judge() {
        for (int town = 0; town < league.towns; town++) {
            if (!exchange.closesAt(town, folk, league)) {
                return town;
            }
        }
        return NONE;
    }

    public int deal() {
        if (judge() != NONE) {
            return NOT;
        }
        exchange.doIn(folk, league);
        return drop();
    }

    public int ring(int what) {
        boolean isOfBoy = what >= FIRST_OF_RING && what < FIRST_OF_RING + MOST_TOWNS;
        if (what != 0 && what != 1 && !isOfBoy) {
            return OUTSIDE;
        }
        ringSearch.seek();
        int size = ringSearch.bestSize;
        if (isOfBoy) {
            int i = what - FIRST_OF_RING;
            return i < size ? ringSearch.best[i] : NONE;
        }
        if (size == 0) {
            return NONE;
        }
        return what == 0 ? ringSearch.bestCheese : size;
    }

    // ---- years

    public int go(int n) {
        if (isNotIn(n, 1, YEARS_AT_ONCE)) {
            return OUTSIDE;
        }
        if (folk.years + n > MOST_YEARS) {
            return FULL;
        }
        calendar.pass(n, folk, league, league.rate);
        exchange.size = 0;
        return folk.years;
    }

    public int keep(int k) {
        if (isNotIn(k, 0, KEEPS - 1)) {
            return UNKNOWN;
        }
        kept[k].become(folk);
        isKept[k] = true;
        return folk.years;
    }

    public int back(int k) {
        if (isNotIn(k, 0, KEEPS - 1)) {
            return UNKNOWN;
        }
        if (!isKept[k]) {
            return NOT;
        }
        folk.become(kept[k]);
        exchange.size = 0;
        return folk.years;
    }

    // ---- foretold

    public int later(int boy, int t, int what) {
        if (isNoBoy(boy)) {
            return UNKNOWN;
        }
        if (isNotIn(t, 0, YEARS_AT_ONCE) || isNotIn(what, 0, 3)) {
            return OUTSIDE;
        }
        foretell(t);
        switch (what) {
            case 0: return ahead.town[boy];
            case 1: return ahead.weight[boy];
            case 2: return ahead.skill[boy];
            default: return ahead.grade[boy];
        }
    }

    public int without(int t) {
        if (isNotIn(t, 0, YEARS_AT_ONCE)) {
            return OUTSIDE;
        }
        foretell(t);
        int bits = 0;
        for (int town = 0; town < league.towns; town++) {
            if (ahead.boysIn(town) == 0) {
                bits |= 1 << town;
            }
        }
        return bits;
    }

    public int owed(int town, int t) {
        if (isNoTown(town)) {
            return UNKNOWN;
        }
        if (isNotIn(t, 0, YEARS_AT_ONCE)) {
            return OUTSIDE;
        }
        foretell(t);
        return TOLD_MORE + ahead.cheese[town];
    }

    public int pays(int town, int t, int p, int what) {
        if (isNoTown(town)) {
            return UNKNOWN;
        }
        if (isNotIn(t, 1, YEARS_OF_FOOD) || isNotIn(p, 0, MOST_PRICE) || isNotIn(what, 0, 1)) {
            return OUTSIDE;
        }
        int bestFood = 0;
        int best = gainOfFood(town, t, p, 0);
        for (int food = 1; food <= MOST_FOOD; food++) {
            int gain = gainOfFood(town, t, p, food);
            if (gain > best) {
                best = gain;
                bestFood = food;
            }
        }
        return what == 0 ? bestFood : TOLD_MORE + best;
    }

    private int gainOfFood(int town, int t, int p, int food) {
        int pounds = 0;
        int boys = 0;
        for (int boy = 0; boy < folk.boys; boy++) {
            if (folk.town[boy] == town) {
                int weight = folk.weight[boy];
                for (int year = 0; year < t; year++) {
                    weight = fedWeight(weight, food);
                }
                pounds += poundsOf(folk.kind[boy], weight);
                boys++;
            }
        }
        return pounds * league.rate[town] - p * food * boys * t;
    }

    public int gainers(int town, int r, int t) {
        if (isNoTown(town)) {
            return UNKNOWN;
        }
        if (isNotIn(r, LEAST_RATE, MOST_RATE) || isNotIn(t, 1, YEARS_AT_ONCE)) {
            return OUTSIDE;
        }
        foretell(t);
        foretellElse(t, town, r);
        int bits = 0;
        for (int other = 0; other < league.towns; other++) {
            if (aheadElse.cheese[other] < ahead.cheese[other]) {
                bits |= 1 << other;
            }
        }
        return bits;
    }

    private void foretell(int t) {
        ahead.become(folk);
        calendar.pass(t, ahead, league, league.rate);
    }

    private void foretellElse(int t, int town, int r) {
        for (int other = 0; other < MOST_TOWNS; other++) {
            otherRate[other] = other == town ? r : league.rate[other];
        }
        aheadElse.become(folk);
        calendar.pass(t, aheadElse, league, otherRate);
    }

    // ---- scales, the road

    public int weigh(int town, int boy, int w) {
        if (isNoTown(town) || isNoBoy(boy)) {
            return UNKNOWN;
        }
        if (isNotIn(w, 0, MOST_SHOWN)) {
            return OUTSIDE;
        }
        if (scales.size >= MOST_WEIGHED) {
            return FULL;
        }
        scales.add(town, boy, w);
        return scales.size;
    }

    public int forget() {
        int had = scales.size;
        scales.size = 0;
        return had;
    }

    public int scales(int what) {
        if (isNotIn(what, 0, 1)) {
            return OUTSIDE;
        }
        if (what == 1) {
            return scales.canBeWith(NONE) ? 1 : 0;
        }
        int bits = 0;
        for (int town = 0; town < league.towns; town++) {
            if (scales.canBeWith(town)) {
                bits |= 1 << town;
            }
        }
        return bits;
    }

    public int road(int w, int c) {
        if (isNotIn(w, LEAST_WEIGHT, MOST_WEIGHT) || isNotIn(c, 0, LAST_CRAFT)) {
            return OUTSIDE;
        }
        if (road.size >= MOST_ON_ROAD) {
            return FULL;
        }
        road.add(w, c);
        return road.size;
    }

    public int arrive() {
        int had = road.size;
        road.size = 0;
        return had;
    }

    public int who(int i) {
        if (isNotIn(i, NONE, road.size - 1)) {
            return OUTSIDE;
        }
        if (i == NONE) {
            return road.countRows(folk);
        }
        return road.whoCanBe(i, folk);
    }

    public int count(int what) {
        switch (what) {
            case 0: return league.towns;
            case 1: return folk.boys;
            case 2: return league.law;
            case 3: return league.slack;
            case 4: return exchange.size;
            case 5: return folk.years;
            case 6: return scales.size;
            case 7: return road.size;
            case 8: return text.length;
            default: return OUTSIDE;
        }
    }

    private boolean isNoTown(int town) {
        return isNotIn(town, 0, league.towns - 1);
    }

    private boolean isNoBoy(int boy) {
        return isNotIn(boy, 0, folk.boys - 1);
    }

    private static boolean isNotIn(int number, int least, int most) {
        return number < least || number > most;
    }

    private static int fedWeight(int weight, int food) {
        return Math.max(LEAST_WEIGHT, Math.min(MOST_WEIGHT, weight - 1 + food));
    }

    private static int poundsOf(int kind, int weight) {
        return kind == HALF ? weight / 2 : weight;
    }

    /** What years and exchanges change: the boys, what cheese the towns owe, the years that have gone. */
    private static final class Folk {
        int boys;
        int years;
        final int[] kind = new int[MOST_BOYS];
        final int[] town = new int[MOST_BOYS];
        final int[] weight = new int[MOST_BOYS];
        final int[] skill = new int[MOST_BOYS];
        final int[] grade = new int[MOST_BOYS];
        final int[] cheese = new int[MOST_TOWNS];

        void become(Folk other) {
            boys = other.boys;
            years = other.years;
            System.arraycopy(other.kind, 0, kind, 0, MOST_BOYS);
            System.arraycopy(other.town, 0, town, 0, MOST_BOYS);
            System.arraycopy(other.weight, 0, weight, 0, MOST_BOYS);
            System.arraycopy(other.skill, 0, skill, 0, MOST_BOYS);
            System.arraycopy(other.grade, 0, grade, 0, MOST_BOYS);
            System.arraycopy(other.cheese, 0, cheese, 0, MOST_TOWNS);
        }

        int pounds(int boy) {
            return poundsOf(kind[boy], weight[boy]);
        }

        int worth(int boy, int[] rate) {
            return pounds(boy) * rate[town[boy]];
        }

        boolean isOf(int boy, int kindInTree) {
            int at = kind[boy] + 1;
            for (int step = 0; step < KIND_OVER.length && at != NONE; step++) {
                if (at == kindInTree) {
                    return true;
                }
                at = KIND_OVER[at];
            }
            return false;
        }

        int boysIn(int place) {
            int number = 0;
            for (int boy = 0; boy < boys; boy++) {
                if (town[boy] == place) {
                    number++;
                }
            }
            return number;
        }
    }

    /** What texts alone change: the towns, the law, the slack, the boys as they were told. */
    private static final class League {
        int towns;
        int law;
        int slack;
        final int[] craft = new int[MOST_TOWNS];
        final int[] rate = new int[MOST_TOWNS];
        final int[] food = new int[MOST_TOWNS];
        final int[] want = new int[MOST_TOWNS];
        final int[] next = new int[MOST_TOWNS];
        final Folk told = new Folk();

        void begin(int number) {
            towns = number;
            law = HEAVY;
            slack = 0;
            for (int town = 0; town < MOST_TOWNS; town++) {
                craft[town] = 0;
                rate[town] = 1;
                food[town] = 1;
                want[town] = NONE;
                next[town] = town + 1 < number ? town + 1 : 0;
            }
            told.boys = 0;
        }

        void become(League other) {
            towns = other.towns;
            law = other.law;
            slack = other.slack;
            System.arraycopy(other.craft, 0, craft, 0, MOST_TOWNS);
            System.arraycopy(other.rate, 0, rate, 0, MOST_TOWNS);
            System.arraycopy(other.food, 0, food, 0, MOST_TOWNS);
            System.arraycopy(other.want, 0, want, 0, MOST_TOWNS);
            System.arraycopy(other.next, 0, next, 0, MOST_TOWNS);
            told.become(other.told);
        }

        void addBoy(int kind, int[] numbers) {
            int boy = told.boys;
            if (boy >= MOST_BOYS) {
                return;
            }
            told.kind[boy] = kind;
            told.town[boy] = numbers[0];
            told.weight[boy] = numbers[1];
            told.skill[boy] = numbers[2];
            told.grade[boy] = numbers[3];
            told.boys = boy + 1;
        }
    }

    private static final class Text {
        int length;
        private final byte[] bytes = new byte[MOST_BYTES];

        void append(int sign) {
            if (length < MOST_BYTES) {
                bytes[length] = (byte) sign;
                length++;
            }
        }

        /** NONE, if the text has no such place. */
        int signAt(int place) {
            return place < 0 || place >= length ? NONE : bytes[place] & 255;
        }
    }

    /**
     * Reads a text to its first fault, and does its lines in a draft as it goes:
     * what can stand in a line depends on what the lines ahead of it did.
     */
    private static final class Reader {
        private static final int END = 0, BLANKS = 1, LETTERS = 2, DIGITS = 3, SIGN = 4;
        private static final int NO_WORD = -1, LEAGUE_WORD = 0, TOWN_WORD = 1, WANT_WORD = 2, NEXT_WORD = 3;
        private static final int FIRST_KIND_WORD = 4, FIRST_LAW_WORD = 8, SLACK_WORD = 12, FREE_WORD = 13;
        private static final int WORDS = 14, MOST_NUMBERS = 4;

        final League draft = new League();
        int lines;
        private final Text text;
        private final int[] numbers = new int[MOST_NUMBERS];
        private int form;
        private int start;
        private int end;

        Reader(Text text) {
            this.text = text;
        }

        /** The place of the fault. NONE: the draft is the league that the text makes of that one, at its begin. */
        int readFrom(League league) {
            draft.become(league);
            end = 0;
            for (lines = 1; lines <= MOST_LINES; lines++) {
                takeToken();
                if (!readLine()) {
                    return start;
                }
                takeToken();
                if (form == END) {
                    return NONE;
                }
                if (text.signAt(start) != ';') {
                    return start;
                }
            }
            return start;
        }

        private void takeToken() {
            start = end;
            while (start < text.length && formOf(text.signAt(start)) == BLANKS) {
                start++;
            }
            form = formOf(text.signAt(start));
            end = Math.min(start + 1, text.length);
            if (form != LETTERS && form != DIGITS) {
                return;
            }
            while (end < text.length && formOf(text.signAt(end)) == form) {
                end++;
            }
        }

        private static int formOf(int sign) {
            if (sign == NONE) {
                return END;
            }
            if (sign == ' ') {
                return BLANKS;
            }
            if (sign >= 'a' && sign <= 'z') {
                return LETTERS;
            }
            return sign >= '0' && sign <= '9' ? DIGITS : SIGN;
        }

        /** False: the token in hand cannot stand there. */
        private boolean readLine() {
            int word = wordInHand();
            switch (word) {
                case NO_WORD: return false;
                case LEAGUE_WORD: return readLeague();
                case TOWN_WORD: return readTown();
                case WANT_WORD: return readWant();
                case NEXT_WORD: return readNext();
                case SLACK_WORD: return readSlack();
                case FREE_WORD:
                    draft.told.boys = 0;
                    return true;
                default: break;
            }
            if (word < FIRST_LAW_WORD) {
                return readBoy(word - FIRST_KIND_WORD);
            }
            draft.law = word - FIRST_LAW_WORD;
            return true;
        }

        private boolean readLeague() {
            if (!readNumber(0, LEAST_TOWNS, MOST_TOWNS)) {
                return false;
            }
            draft.begin(numbers[0]);
            return true;
        }

        private boolean readTown() {
            if (!readNumber(0, 0, draft.towns - 1) || !readNumber(1, 0, LAST_CRAFT)
                    || !readNumber(2, LEAST_RATE, MOST_RATE) || !readNumber(3, 0, MOST_FOOD)) {
                return false;
            }
            draft.craft[numbers[0]] = numbers[1];
            draft.rate[numbers[0]] = numbers[2];
            draft.food[numbers[0]] = numbers[3];
            return true;
        }

        private boolean readWant() {
            if (!readNumber(0, 0, draft.towns - 1) || !readNumber(1, 0, LAST_CRAFT)) {
                return false;
            }
            draft.want[numbers[0]] = numbers[1];
            return true;
        }

        private boolean readNext() {
            int lastTown = draft.towns - 1;
            if (!readNumber(0, 0, lastTown) || !readNumber(1, 0, lastTown) || numbers[0] == numbers[1]) {
                return false;
            }
            draft.next[numbers[0]] = numbers[1];
            return true;
        }

        private boolean readBoy(int kind) {
            if (draft.told.boys >= MOST_BOYS) {
                return false;
            }
            if (!readNumber(0, 0, draft.towns - 1) || !readNumber(1, LEAST_WEIGHT, MOST_WEIGHT)
                    || !readNumber(2, 0, LAST_CRAFT) || !readNumber(3, 0, MOST_GRADE)) {
                return false;
            }
            draft.addBoy(kind, numbers);
            return true;
        }

        private boolean readSlack() {
            if (!readNumber(0, 0, MOST_SLACK)) {
                return false;
            }
            draft.slack = numbers[0];
            return true;
        }

        private boolean readNumber(int slot, int least, int most) {
            takeToken();
            if (form != DIGITS || end - start > MOST_DIGITS) {
                return false;
            }
            int number = 0;
            for (int place = start; place < end; place++) {
                number = number * 10 + text.signAt(place) - '0';
            }
            numbers[slot] = number;
            return number >= least && number <= most;
        }

        private int wordInHand() {
            for (int word = 0; word < WORDS; word++) {
                if (isInHand(spelling(word))) {
                    return word;
                }
            }
            return NO_WORD;
        }

        private boolean isInHand(String word) {
            if (end - start != word.length()) {
                return false;
            }
            for (int i = 0; i < word.length(); i++) {
                if (text.signAt(start + i) != word.charAt(i)) {
                    return false;
                }
            }
            return true;
        }

        /** Kinds and laws stand in the order of their numbers. */
        private static String spelling(int word) {
            switch (word) {
                case LEAGUE_WORD: return "league";
                case TOWN_WORD: return "town";
                case WANT_WORD: return "want";
                case NEXT_WORD: return "next";
                case FIRST_KIND_WORD + PLAIN: return "plain";
                case FIRST_KIND_WORD + FOOL: return "fool";
                case FIRST_KIND_WORD + HALF: return "half";
                case FIRST_KIND_WORD + PRODIGY: return "prodigy";
                case FIRST_LAW_WORD + HEAVY: return "heavy";
                case FIRST_LAW_WORD + LIGHT: return "light";
                case FIRST_LAW_WORD + LEAST: return "least";
                case FIRST_LAW_WORD + NOBODY: return "none";
                case SLACK_WORD: return "slack";
                default: return "free";
            }
        }
    }

    private static final class Exchange {
        int size;
        private final int[] boy = new int[MOST_GIVEN];
        private final int[] goal = new int[MOST_GIVEN];

        void add(int newBoy, int town) {
            if (size < MOST_GIVEN) {
                boy[size] = newBoy;
                goal[size] = town;
                size++;
            }
        }

        boolean has(int sought) {
            for (int i = 0; i < size; i++) {
                if (boy[i] == sought) {
                    return true;
                }
            }
            return false;
        }

        int balanceOf(int town, Folk folk, int[] rate) {
            int balance = 0;
            for (int i = 0; i < size; i++) {
                balance += comesTo(town, i, folk) * folk.worth(boy[i], rate);
            }
            return balance;
        }

        boolean closesAt(int town, Folk folk, League league) {
            int more = 0;
            for (int i = 0; i < size; i++) {
                more += comesTo(town, i, folk);
            }
            return more == 0 && Math.abs(balanceOf(town, folk, league.rate)) <= league.slack;
        }

        /** By the i-th boy: 1 if he comes to that town, -1 if he leaves it, else 0. */
        private int comesTo(int town, int i, Folk folk) {
            if (goal[i] == town) {
                return 1;
            }
            return folk.town[boy[i]] == town ? -1 : 0;
        }

        void doIn(Folk folk, League league) {
            // Worth goes by where a boy is: the cheese comes ahead of the moves.
            for (int town = 0; town < league.towns; town++) {
                folk.cheese[town] -= balanceOf(town, folk, league.rate);
            }
            for (int i = 0; i < size; i++) {
                folk.town[boy[i]] = goal[i];
            }
        }
    }

    /** Lets years go by over folk, now or foretold. */
    private static final class Calendar {
        private final int[] sent = new int[MOST_TOWNS];

        void pass(int years, Folk folk, League league, int[] rate) {
            for (int year = 0; year < years; year++) {
                for (int boy = 0; boy < folk.boys; boy++) {
                    int town = folk.town[boy];
                    folk.weight[boy] = fedWeight(folk.weight[boy], league.food[town]);
                    train(boy, folk, league.craft[town]);
                }
                keepLent(folk, league, rate);
                folk.years++;
            }
        }

        private static void train(int boy, Folk folk, int craft) {
            int grade = folk.grade[boy];
            if (folk.skill[boy] == craft) {
                folk.grade[boy] = Math.min(MOST_GRADE, grade + GROWTH[folk.kind[boy]]);
                return;
            }
            folk.grade[boy] = Math.max(0, grade - 1);
            if (folk.grade[boy] == 0) {
                folk.skill[boy] = craft;
            }
        }

        private void keepLent(Folk folk, League league, int[] rate) {
            if (league.law == NOBODY) {
                return;
            }
            // All are chosen before one goes: who has just come is not sent on.
            chooseSent(folk, league);
            for (int town = 0; town < league.towns; town++) {
                int boy = sent[town];
                if (boy != NONE) {
                    int worth = folk.worth(boy, rate);
                    int goal = league.next[town];
                    folk.cheese[town] += worth;
                    folk.cheese[goal] -= worth;
                    folk.town[boy] = goal;
                }
            }
        }

        private void chooseSent(Folk folk, League league) {
            for (int town = 0; town < MOST_TOWNS; town++) {
                sent[town] = NONE;
            }
            for (int boy = 0; boy < folk.boys; boy++) {
                int town = folk.town[boy];
                if (folk.kind[boy] == PRODIGY) {
                    continue;
                }
                if (sent[town] == NONE || goesRather(boy, sent[town], folk, league.law)) {
                    sent[town] = boy;
                }
            }
        }

        private static boolean goesRather(int boy, int other, Folk folk, int law) {
            switch (law) {
                case HEAVY: return folk.weight[boy] > folk.weight[other];
                case LIGHT: return folk.weight[boy] < folk.weight[other];
                default: return folk.grade[boy] < folk.grade[other];
            }
        }
    }

    /**
     * Goes through the rings in the order of their rows of boys, a row ahead of those it begins:
     * so of several with the least cheese the first one found is the one to tell.
     */
    private static final class RingSearch {
        int bestSize;
        int bestCheese;
        final int[] best = new int[MOST_TOWNS];
        private final int[] row = new int[MOST_TOWNS];
        private final int[] worth = new int[MOST_BOYS];
        private final Folk folk;
        private final League league;

        RingSearch(Folk folk, League league) {
            this.folk = folk;
            this.league = league;
        }

        void seek() {
            bestSize = 0;
            bestCheese = 0;
            for (int boy = 0; boy < folk.boys; boy++) {
                worth[boy] = folk.worth(boy, league.rate);
            }
            for (int boy = 0; boy < folk.boys; boy++) {
                row[0] = boy;
                extend(1, 1 << folk.town[boy], 0);
            }
        }

        /** The row has so many boys, of the towns used; cheese is what all but the first one's town owe. */
        private void extend(int size, int used, int cheese) {
            // Cheese only grows along a row: one that is no better now never will be.
            if (bestSize > 0 && cheese >= bestCheese) {
                return;
            }
            int last = row[size - 1];
            if (size > 1 && isWanted(last, folk.town[row[0]])) {
                takeIfBetter(size, cheese + owedFor(last, row[0]));
            }
            if (size >= MOST_TOWNS) {
                return;
            }
            for (int boy = 0; boy < folk.boys; boy++) {
                int town = folk.town[boy];
                if (town > folk.town[row[0]] && (used >> town & 1) == 0 && isWanted(last, town)) {
                    row[size] = boy;
                    extend(size + 1, used | 1 << town, cheese + owedFor(last, boy));
                }
            }
        }

        private boolean isWanted(int boy, int town) {
            return folk.skill[boy] == league.want[town];
        }

        private int owedFor(int got, int given) {
            return Math.max(0, worth[got] - worth[given]);
        }

        private void takeIfBetter(int size, int cheese) {
            if (bestSize == 0 || cheese < bestCheese) {
                bestSize = size;
                bestCheese = cheese;
                System.arraycopy(row, 0, best, 0, size);
            }
        }
    }

    private static final class Scales {
        int size;
        private final int[] town = new int[MOST_WEIGHED];
        private final int[] boy = new int[MOST_WEIGHED];
        private final int[] shown = new int[MOST_WEIGHED];

        void add(int place, int weighed, int weight) {
            if (size < MOST_WEIGHED) {
                town[size] = place;
                boy[size] = weighed;
                shown[size] = weight;
                size++;
            }
        }

        /** Whether that town's scales can be false (NONE: no town's), and all others true. */
        boolean canBeWith(int falseTown) {
            // 0 stands for an error that no pair has told yet: a false one is never 0.
            int error = 0;
            for (int i = 0; i < size; i++) {
                for (int j = 0; j < size; j++) {
                    if (boy[i] != boy[j]) {
                        continue;
                    }
                    int gap = shown[i] - shown[j];
                    if ((town[i] == falseTown) == (town[j] == falseTown)) {
                        if (gap != 0) {
                            return false;
                        }
                    } else if (town[i] == falseTown) {
                        if (gap == 0 || error != 0 && gap != error) {
                            return false;
                        }
                        error = gap;
                    }
                }
            }
            return true;
        }
    }

    private static final class Road {
        int size;
        private final int[] weight = new int[MOST_ON_ROAD];
        private final int[] skill = new int[MOST_ON_ROAD];
        private final int[] fitting = new int[MOST_ON_ROAD];
        /** By sets of boys: in how many rows they can be the first ones of the road. */
        private final int[] rows = new int[1 << MOST_BOYS];

        void add(int w, int c) {
            if (size < MOST_ON_ROAD) {
                weight[size] = w;
                skill[size] = c;
                size++;
            }
        }

        int countRows(Folk folk) {
            fillRows(folk, size - 1);
            int number = 0;
            for (int set = 0; set < 1 << folk.boys; set++) {
                if (Integer.bitCount(set) == size) {
                    number += rows[set];
                }
            }
            return number;
        }

        int whoCanBe(int i, Folk folk) {
            // With the i-th one put last, each row of all others that leaves a fitting boy tells of him.
            fillRows(folk, i);
            int bits = 0;
            for (int set = 0; set < 1 << folk.boys; set++) {
                if (Integer.bitCount(set) == size - 1 && rows[set] > 0) {
                    bits |= fitting[size - 1] & ~set;
                }
            }
            return bits;
        }

        private void fillRows(Folk folk, int last) {
            for (int i = 0; i < size; i++) {
                fitting[i] = fittingBoys(i == size - 1 ? last : i == last ? size - 1 : i, folk);
            }
            rows[0] = 1;
            for (int set = 1; set < 1 << folk.boys; set++) {
                rows[set] = Integer.bitCount(set) > size ? 0 : rowsOf(set, folk.boys);
            }
        }

        private int rowsOf(int set, int boys) {
            int lastOnes = set & fitting[Integer.bitCount(set) - 1];
            int number = 0;
            for (int boy = 0; boy < boys; boy++) {
                if ((lastOnes >> boy & 1) == 1) {
                    number += rows[set ^ 1 << boy];
                }
            }
            return number;
        }

        private int fittingBoys(int i, Folk folk) {
            int bits = 0;
            for (int boy = 0; boy < folk.boys; boy++) {
                if (folk.skill[boy] == skill[i] && Math.abs(folk.weight[boy] - weight[i]) <= 1) {
                    bits |= 1 << boy;
                }
            }
            return bits;
        }
    }
}
