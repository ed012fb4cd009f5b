import java.util.ArrayList;
import java.util.Arrays;
import java.util.HashSet;
import java.util.List;
import java.util.Map;
import java.util.HashMap;
import java.util.Set;
import java.util.TreeMap;

/** The document a second time, by the slowest plain means, to hold PoundBoys against. */
final class Model {
    private static final int NONE = -1, UNKNOWN = -2, OUTSIDE = -3, NOT = -4, FULL = -5, MORE = 10000000;

    private static final class Town {
        int craft = 0;
        int rate = 1;
        int food = 1;
        Integer want = null;
        int next;
        int cheese = 0;

        Town copy() {
            Town t = new Town();
            t.craft = craft;
            t.rate = rate;
            t.food = food;
            t.want = want;
            t.next = next;
            t.cheese = cheese;
            return t;
        }
    }

    private static final class Boy {
        final String kind;
        int town;
        int weight;
        int skill;
        int grade;

        Boy(String kind, int town, int weight, int skill, int grade) {
            this.kind = kind;
            this.town = town;
            this.weight = weight;
            this.skill = skill;
            this.grade = grade;
        }

        Boy copy() {
            return new Boy(kind, town, weight, skill, grade);
        }

        int pounds() {
            return kind.equals("half") ? weight / 2 : weight;
        }
    }

    private static final class World {
        List<Town> towns = new ArrayList<>();
        List<Boy> boys = new ArrayList<>();
        String law = "heavy";
        int slack = 0;
        int years = 0;

        World(int n) {
            for (int i = 0; i < n; i++) {
                Town t = new Town();
                t.next = (i + 1) % n;
                towns.add(t);
            }
        }

        World copy() {
            World w = new World(0);
            for (Town t : towns) {
                w.towns.add(t.copy());
            }
            for (Boy b : boys) {
                w.boys.add(b.copy());
            }
            w.law = law;
            w.slack = slack;
            w.years = years;
            return w;
        }

        int worth(int boy) {
            return boys.get(boy).pounds() * towns.get(boys.get(boy).town).rate;
        }

        /** Balances of all towns by rows of {boy, goal}. */
        int[] balances(List<int[]> goings) {
            int[] sums = new int[towns.size()];
            for (int[] g : goings) {
                sums[boys.get(g[0]).town] -= worth(g[0]);
                sums[g[1]] += worth(g[0]);
            }
            return sums;
        }

        void carryOut(List<int[]> goings) {
            int[] sums = balances(goings);
            for (int i = 0; i < sums.length; i++) {
                towns.get(i).cheese -= sums[i];
            }
            for (int[] g : goings) {
                boys.get(g[0]).town = g[1];
            }
        }

        void year() {
            for (Boy b : boys) {
                Town t = towns.get(b.town);
                b.weight = b.weight - 1 + t.food;
                if (b.weight < 1) {
                    b.weight = 1;
                }
                if (b.weight > 99) {
                    b.weight = 99;
                }
            }
            for (Boy b : boys) {
                Town t = towns.get(b.town);
                if (b.skill == t.craft) {
                    int more = b.kind.equals("fool") ? 0 : b.kind.equals("prodigy") ? 2 : 1;
                    b.grade = b.grade + more > 9 ? 9 : b.grade + more;
                } else {
                    if (b.grade > 0) {
                        b.grade--;
                    }
                    if (b.grade == 0) {
                        b.skill = t.craft;
                    }
                }
            }
            List<int[]> goings = new ArrayList<>();
            for (int i = 0; i < towns.size() && !law.equals("none"); i++) {
                int best = -1;
                long bestKey = 0;
                for (int b = 0; b < boys.size(); b++) {
                    Boy boy = boys.get(b);
                    if (boy.town != i || boy.kind.equals("prodigy")) {
                        continue;
                    }
                    long key = law.equals("heavy") ? -boy.weight : law.equals("light") ? boy.weight : boy.grade;
                    if (best < 0 || key < bestKey) {
                        best = b;
                        bestKey = key;
                    }
                }
                if (best >= 0) {
                    goings.add(new int[] {best, towns.get(i).next});
                }
            }
            carryOut(goings);
            years++;
        }

        World in(int t) {
            World w = copy();
            for (int i = 0; i < t; i++) {
                w.year();
            }
            return w;
        }
    }

    private static final List<String> KINDS = List.of("plain", "fool", "half", "prodigy");
    private static final List<String> LAWS = List.of("heavy", "light", "least", "none");

    private World told = new World(3);
    private World now = told.copy();
    private StringBuilder text = new StringBuilder();
    private final Map<Integer, World> keeps = new HashMap<>();
    private List<int[]> exchange = new ArrayList<>();
    private List<int[]> weighed = new ArrayList<>();
    private List<int[]> onRoad = new ArrayList<>();

    int write(long bytes, int n) {
        if (n < 1 || n > 8) {
            return OUTSIDE;
        }
        if (text.length() + n > 200) {
            return FULL;
        }
        for (int i = 0; i < n; i++) {
            text.append((char) (bytes >>> 8 * i & 0xff));
        }
        return text.length();
    }

    int erase() {
        int had = text.length();
        text = new StringBuilder();
        return had;
    }

    /** Tokens with their places; the last one is empty, at the end. */
    private TreeMap<Integer, String> tokens() {
        TreeMap<Integer, String> found = new TreeMap<>();
        java.util.regex.Matcher m = java.util.regex.Pattern.compile("[a-z]+|[0-9]+|[^ ]", java.util.regex.Pattern.DOTALL).matcher(text);
        while (m.find()) {
            found.put(m.start(), m.group());
        }
        found.put(text.length(), "");
        return found;
    }

    private int readLines = 0;

    /** The fault's place, or the world that the text makes in made[0]. */
    private int read(World[] made) {
        World w = told.copy();
        List<Map.Entry<Integer, String>> row = new ArrayList<>(tokens().entrySet());
        int at = 0;
        readLines = 0;
        while (true) {
            String word = row.get(at).getValue();
            int[][] bounds = boundsOf(word, w);
            if (bounds == null) {
                return row.get(at).getKey();
            }
            int[] v = new int[bounds.length];
            for (int i = 0; i < bounds.length; i++) {
                at++;
                String number = row.get(at).getValue();
                if (!number.matches("[0-9]{1,3}")) {
                    return row.get(at).getKey();
                }
                v[i] = Integer.parseInt(number);
                if (v[i] < bounds[i][0] || v[i] > bounds[i][1] || word.equals("next") && i == 1 && v[0] == v[1]) {
                    return row.get(at).getKey();
                }
            }
            w = done(word, v, w);
            readLines++;
            at++;
            if (row.get(at).getValue().isEmpty()) {
                made[0] = w;
                return NONE;
            }
            if (!row.get(at).getValue().equals(";") || readLines == 10) {
                return row.get(at).getKey();
            }
            at++;
        }
    }

    private static int[][] boundsOf(String word, World w) {
        int[] town = {0, w.towns.size() - 1};
        int[] craft = {0, 3};
        if (word.equals("league")) {
            return new int[][] {{2, 6}};
        }
        if (word.equals("town")) {
            return new int[][] {town, craft, {1, 9}, {0, 3}};
        }
        if (word.equals("want")) {
            return new int[][] {town, craft};
        }
        if (word.equals("next")) {
            return new int[][] {town, town};
        }
        if (KINDS.contains(word)) {
            return w.boys.size() == 10 ? null : new int[][] {town, {1, 99}, craft, {0, 9}};
        }
        if (word.equals("slack")) {
            return new int[][] {{0, 999}};
        }
        return LAWS.contains(word) || word.equals("free") ? new int[0][] : null;
    }

    private static World done(String word, int[] v, World w) {
        if (word.equals("league")) {
            return new World(v[0]);
        }
        if (word.equals("town")) {
            w.towns.get(v[0]).craft = v[1];
            w.towns.get(v[0]).rate = v[2];
            w.towns.get(v[0]).food = v[3];
        } else if (word.equals("want")) {
            w.towns.get(v[0]).want = v[1];
        } else if (word.equals("next")) {
            w.towns.get(v[0]).next = v[1];
        } else if (KINDS.contains(word)) {
            w.boys.add(new Boy(word, v[0], v[1], v[2], v[3]));
        } else if (word.equals("slack")) {
            w.slack = v[0];
        } else if (word.equals("free")) {
            w.boys.clear();
        } else {
            w.law = word;
        }
        return w;
    }

    int fault() {
        return read(new World[1]);
    }

    int league() {
        World[] made = new World[1];
        if (read(made) != NONE) {
            return NOT;
        }
        told = made[0];
        now = told.copy();
        erase();
        exchange.clear();
        weighed.clear();
        onRoad.clear();
        keeps.clear();
        return readLines;
    }

    private boolean townIs(int town) {
        return town >= 0 && town < now.towns.size();
    }

    private boolean boyIs(int boy) {
        return boy >= 0 && boy < now.boys.size();
    }

    private static int pick(int what, int... answers) {
        return what < 0 || what >= answers.length ? OUTSIDE : answers[what];
    }

    int town(int town, int what) {
        if (!townIs(town)) {
            return UNKNOWN;
        }
        Town t = now.towns.get(town);
        int boys = (int) now.boys.stream().filter(b -> b.town == town).count();
        return pick(what, t.craft, t.rate, t.food, t.want == null ? NONE : t.want, t.next, MORE + t.cheese, boys);
    }

    int boy(int boy, int what) {
        if (!boyIs(boy)) {
            return UNKNOWN;
        }
        Boy b = now.boys.get(boy);
        return pick(what, KINDS.indexOf(b.kind), b.town, b.weight, b.skill, b.grade, now.worth(boy));
    }

    int as(int boy, int kind) {
        if (!boyIs(boy)) {
            return UNKNOWN;
        }
        if (kind < 0 || kind > 4) {
            return OUTSIDE;
        }
        String own = now.boys.get(boy).kind;
        Set<Integer> all = new HashSet<>(own.equals("plain") ? List.of(0, 1) : own.equals("fool") ? List.of(0, 1, 2)
            : own.equals("half") ? List.of(0, 1, 3) : List.of(0, 4));
        return all.contains(kind) ? now.boys.get(boy).pounds() : NOT;
    }

    int give(int boy, int town) {
        if (!boyIs(boy) || !townIs(town)) {
            return UNKNOWN;
        }
        if (now.boys.get(boy).town == town) {
            return OUTSIDE;
        }
        if (exchange.stream().anyMatch(g -> g[0] == boy)) {
            return NOT;
        }
        if (exchange.size() == 8) {
            return FULL;
        }
        exchange.add(new int[] {boy, town});
        return exchange.size();
    }

    int drop() {
        int had = exchange.size();
        exchange.clear();
        return had;
    }

    int balance(int town) {
        return townIs(town) ? MORE + now.balances(exchange)[town] : UNKNOWN;
    }

    int judge() {
        int[] sums = now.balances(exchange);
        for (int i = 0; i < sums.length; i++) {
            int town = i;
            long gives = exchange.stream().filter(g -> now.boys.get(g[0]).town == town).count();
            long gets = exchange.stream().filter(g -> g[1] == town).count();
            if (gives != gets || sums[i] > now.slack || sums[i] < -now.slack) {
                return i;
            }
        }
        return NONE;
    }

    int deal() {
        if (judge() != NONE) {
            return NOT;
        }
        now.carryOut(exchange);
        return drop();
    }

    int ring(int what) {
        if (what < 0 || what > 15 || what > 1 && what < 10) {
            return OUTSIDE;
        }
        List<List<Integer>> rows = new ArrayList<>();
        gatherRows(new ArrayList<>(), rows);
        List<Integer> best = null;
        int bestCheese = 0;
        for (List<Integer> row : rows) {
            if (!isRing(row)) {
                continue;
            }
            List<int[]> goings = new ArrayList<>();
            for (int i = 0; i < row.size(); i++) {
                goings.add(new int[] {row.get(i), now.boys.get(row.get((i + 1) % row.size())).town});
            }
            int cheese = Arrays.stream(now.balances(goings)).filter(s -> s > 0).sum();
            if (best == null || cheese < bestCheese || cheese == bestCheese && isAhead(row, best)) {
                best = row;
                bestCheese = cheese;
            }
        }
        if (best == null) {
            return NONE;
        }
        return what == 0 ? bestCheese : what == 1 ? best.size() : what - 10 < best.size() ? best.get(what - 10) : NONE;
    }

    private static boolean isAhead(List<Integer> a, List<Integer> b) {
        for (int i = 0; i < a.size() && i < b.size(); i++) {
            if (!a.get(i).equals(b.get(i))) {
                return a.get(i) < b.get(i);
            }
        }
        return a.size() < b.size();
    }

    /** All rows of boys of unlike towns, the least town's boy first. */
    private void gatherRows(List<Integer> row, List<List<Integer>> rows) {
        if (row.size() >= 2) {
            rows.add(new ArrayList<>(row));
        }
        for (int b = now.boys.size() - 1; b >= 0; b--) {
            int town = now.boys.get(b).town;
            if (row.stream().allMatch(r -> now.boys.get(r).town != town)
                && (row.isEmpty() || town > now.boys.get(row.get(0)).town)) {
                row.add(b);
                gatherRows(row, rows);
                row.remove(row.size() - 1);
            }
        }
    }

    private boolean isRing(List<Integer> row) {
        for (int i = 0; i < row.size(); i++) {
            Town goal = now.towns.get(now.boys.get(row.get((i + 1) % row.size())).town);
            if (goal.want == null || goal.want != now.boys.get(row.get(i)).skill) {
                return false;
            }
        }
        return true;
    }

    int go(int n) {
        if (n < 1 || n > 99) {
            return OUTSIDE;
        }
        if (now.years + n > 999) {
            return FULL;
        }
        now = now.in(n);
        exchange.clear();
        return now.years;
    }

    int keep(int k) {
        if (k != 0 && k != 1) {
            return UNKNOWN;
        }
        keeps.put(k, now.copy());
        return now.years;
    }

    int back(int k) {
        if (k != 0 && k != 1) {
            return UNKNOWN;
        }
        if (!keeps.containsKey(k)) {
            return NOT;
        }
        now = keeps.get(k).copy();
        exchange.clear();
        return now.years;
    }

    int later(int boy, int t, int what) {
        if (!boyIs(boy)) {
            return UNKNOWN;
        }
        if (t < 0 || t > 99) {
            return OUTSIDE;
        }
        Boy b = now.in(t).boys.get(boy);
        return pick(what, b.town, b.weight, b.skill, b.grade);
    }

    int without(int t) {
        if (t < 0 || t > 99) {
            return OUTSIDE;
        }
        int bits = (1 << now.towns.size()) - 1;
        for (Boy b : now.in(t).boys) {
            bits &= ~(1 << b.town);
        }
        return bits;
    }

    int owed(int town, int t) {
        if (!townIs(town)) {
            return UNKNOWN;
        }
        return t < 0 || t > 99 ? OUTSIDE : MORE + now.in(t).towns.get(town).cheese;
    }

    int pays(int town, int t, int p, int what) {
        if (!townIs(town)) {
            return UNKNOWN;
        }
        if (t < 1 || t > 9 || p < 0 || p > 99) {
            return OUTSIDE;
        }
        int bestFood = 0;
        int best = Integer.MIN_VALUE;
        for (int food = 3; food >= 0; food--) {
            World w = now.copy();
            w.law = "none";
            w.boys.removeIf(b -> b.town != town);
            w.towns.get(town).food = food;
            w = w.in(t);
            int sum = 0;
            for (int b = 0; b < w.boys.size(); b++) {
                sum += w.worth(b);
                sum -= p * food * t;
            }
            if (sum >= best) {
                best = sum;
                bestFood = food;
            }
        }
        return pick(what, bestFood, MORE + best);
    }

    int gainers(int town, int r, int t) {
        if (!townIs(town)) {
            return UNKNOWN;
        }
        if (r < 1 || r > 9 || t < 1 || t > 99) {
            return OUTSIDE;
        }
        World changed = now.copy();
        changed.towns.get(town).rate = r;
        changed = changed.in(t);
        World same = now.in(t);
        int bits = 0;
        for (int i = 0; i < now.towns.size(); i++) {
            if (changed.towns.get(i).cheese < same.towns.get(i).cheese) {
                bits += 1 << i;
            }
        }
        return bits;
    }

    int weigh(int town, int boy, int w) {
        if (!townIs(town) || !boyIs(boy)) {
            return UNKNOWN;
        }
        if (w < 0 || w > 199) {
            return OUTSIDE;
        }
        if (weighed.size() == 12) {
            return FULL;
        }
        weighed.add(new int[] {town, boy, w});
        return weighed.size();
    }

    int forget() {
        int had = weighed.size();
        weighed.clear();
        return had;
    }

    private boolean canBe(int town, int error) {
        Map<Integer, Integer> weights = new HashMap<>();
        for (int[] s : weighed) {
            int weight = s[2] - (s[0] == town ? error : 0);
            if (weights.getOrDefault(s[1], weight) != weight) {
                return false;
            }
            weights.put(s[1], weight);
        }
        return true;
    }

    int scales(int what) {
        int bits = 0;
        for (int town = 0; town < now.towns.size(); town++) {
            for (int error = -200; error <= 200; error++) {
                if (error != 0 && canBe(town, error)) {
                    bits |= 1 << town;
                }
            }
        }
        return pick(what, bits, canBe(NONE, 0) ? 1 : 0);
    }

    int road(int w, int c) {
        if (w < 1 || w > 99 || c < 0 || c > 3) {
            return OUTSIDE;
        }
        if (onRoad.size() == 6) {
            return FULL;
        }
        onRoad.add(new int[] {w, c});
        return onRoad.size();
    }

    int arrive() {
        int had = onRoad.size();
        onRoad.clear();
        return had;
    }

    int who(int i) {
        if (i < NONE || i >= onRoad.size()) {
            return OUTSIDE;
        }
        int[] canBe = new int[onRoad.size()];
        int rows = rowsFrom(new ArrayList<>(), canBe);
        return i == NONE ? rows : canBe[i];
    }

    private int rowsFrom(List<Integer> row, int[] canBe) {
        if (row.size() == onRoad.size()) {
            for (int i = 0; i < row.size(); i++) {
                canBe[i] |= 1 << row.get(i);
            }
            return 1;
        }
        int[] came = onRoad.get(row.size());
        int rows = 0;
        for (int b = 0; b < now.boys.size(); b++) {
            Boy boy = now.boys.get(b);
            if (!row.contains(b) && boy.skill == came[1] && boy.weight >= came[0] - 1 && boy.weight <= came[0] + 1) {
                row.add(b);
                rows += rowsFrom(row, canBe);
                row.remove(row.size() - 1);
            }
        }
        return rows;
    }

    int count(int what) {
        return pick(what, now.towns.size(), now.boys.size(), LAWS.indexOf(now.law), now.slack, exchange.size(),
            now.years, weighed.size(), onRoad.size(), text.length());
    }
}
