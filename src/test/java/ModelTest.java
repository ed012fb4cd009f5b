import java.util.Random;

/** Random runs of calls (always the same ones), each answer held against the model's. */
public final class ModelTest {
    private static final int RUNS = 1500;
    private static final String[] WORDS = {
        "league", "town", "want", "next", "plain", "fool", "half", "prodigy", "heavy", "light", "least", "none", "slack", "free"
    };

    private final Random random;
    private final int run;
    private final PoundBoys x = new PoundBoys();
    private final Model model = new Model();

    private ModelTest(int run) {
        this.run = run;
        this.random = new Random(run);
    }

    public static void main(String[] args) {
        for (int run = 0; run < RUNS; run++) {
            new ModelTest(run).calls(run % 10 == 0 ? 500 : 120);
        }
        Check.end();
    }

    private void due(String call, long want, long got) {
        Check.due("run " + run + ": " + call, want, got);
    }

    private int below(int bound) {
        return random.nextInt(bound);
    }

    /** Mostly a number of these bounds, at times one beside them, seldom any at all. */
    private int number(int least, int most) {
        int die = below(40);
        if (die == 0) {
            return least - 1;
        }
        if (die == 1) {
            return most + 1;
        }
        if (die == 2) {
            return random.nextInt();
        }
        return least + below(most - least + 1);
    }

    private int town() {
        return number(0, Math.max(1, x.count(0)) - 1);
    }

    private int boy() {
        return number(0, Math.max(1, x.count(1)) - 1);
    }

    private void calls(int number) {
        tell();
        for (int i = 0; i < number; i++) {
            if (below(25) == 0) {
                tell();
            } else {
                call(below(29));
            }
        }
        lookAtAll();
    }

    private void tell() {
        int lines = below(4) == 0 ? 1 : 1 + below(10);
        StringBuilder text = new StringBuilder();
        int towns = x.count(0);
        for (int i = 0; i < lines; i++) {
            text.append(i == 0 ? "" : ";");
            String line = line(below(12) == 0 || i == 0 && below(3) == 0 ? 0 : 1 + below(WORDS.length - 1), towns);
            if (line.startsWith("league ")) {
                towns = 2 + below(5);
                line = "league " + towns;
            }
            text.append(line);
        }
        if (below(4) == 0) {
            spoil(text);
        }
        write(text.toString());
        due("fault() of " + text, model.fault(), x.fault());
        due("league() of " + text, model.league(), x.league());
        if (below(5) > 0) {
            due("erase()", model.erase(), x.erase());
        }
    }

    private String line(int word, int towns) {
        int t = below(towns);
        String start = WORDS[word];
        switch (start) {
            case "league": return "league 3";
            case "town": return "town " + t + " " + below(4) + " " + (1 + below(9)) + " " + below(4);
            case "want": return "want " + t + " " + below(2 + below(3));
            case "next": return "next " + t + " " + (t + 1 + below(towns - 1)) % towns;
            case "slack": return "slack " + below(1000);
            case "plain": case "fool": case "half": case "prodigy":
                int weight = below(3) == 0 ? 1 + below(99) : 20 + below(4);
                return start + " " + t + " " + weight + " " + below(1 + below(4)) + " " + below(10);
            default: return start;
        }
    }

    private void spoil(StringBuilder text) {
        String signs = " ;0123456789azlTx.\t\u00e9\u00ff\u0000";
        for (int i = below(3); i >= 0; i--) {
            int place = below(text.length() + 1);
            char sign = signs.charAt(below(signs.length()));
            if (below(2) == 0 || place == text.length()) {
                text.insert(place, sign);
            } else if (below(2) == 0) {
                text.setCharAt(place, sign);
            } else {
                text.deleteCharAt(place);
            }
            if (text.length() == 0) {
                return;
            }
        }
    }

    private void write(String text) {
        int at = 0;
        while (at < text.length()) {
            int n = Math.min(text.length() - at, 1 + below(8));
            long bytes = Check.packed(text.substring(at, at + n));
            if (n < 8) {
                bytes |= random.nextLong() << 8 * n;
            }
            due("write", model.write(bytes, n), x.write(bytes, n));
            at += n;
        }
    }

    private void call(int which) {
        switch (which) {
            case 0: { int a = town(), b = number(0, 6); due("town " + a + " " + b, model.town(a, b), x.town(a, b)); break; }
            case 1: { int a = boy(), b = number(0, 5); due("boy " + a + " " + b, model.boy(a, b), x.boy(a, b)); break; }
            case 2: { int a = boy(), b = number(0, 4); due("as " + a + " " + b, model.as(a, b), x.as(a, b)); break; }
            case 3: case 4: case 5: give(); break;
            case 6: if (below(4) == 0) { due("drop", model.drop(), x.drop()); } break;
            case 7: { int a = town(); due("balance " + a, model.balance(a), x.balance(a)); break; }
            case 8: due("judge", model.judge(), x.judge()); break;
            case 9: due("deal", model.deal(), x.deal()); break;
            case 10: ring(); break;
            case 11: { int a = number(0, 16); due("ring " + a, model.ring(a), x.ring(a)); break; }
            case 12: { int a = below(5) == 0 ? number(1, 99) : 1 + below(3); due("go " + a, model.go(a), x.go(a)); break; }
            case 13: { int a = number(0, 1); due("keep " + a, model.keep(a), x.keep(a)); break; }
            case 14: { int a = number(0, 1); due("back " + a, model.back(a), x.back(a)); break; }
            case 15: { int a = boy(), t = number(0, 99), b = number(0, 3); due("later " + a + " " + t + " " + b, model.later(a, t, b), x.later(a, t, b)); break; }
            case 16: { int t = number(0, 99); due("without " + t, model.without(t), x.without(t)); break; }
            case 17: { int a = town(), t = number(0, 99); due("owed " + a + " " + t, model.owed(a, t), x.owed(a, t)); break; }
            case 18: pays(); break;
            case 19: { int a = town(), r = number(1, 9), t = number(1, 99); due("gainers " + a + " " + r + " " + t, model.gainers(a, r, t), x.gainers(a, r, t)); break; }
            case 20: case 21: weigh(); break;
            case 22: if (below(4) == 0) { due("forget", model.forget(), x.forget()); } break;
            case 23: { int a = number(0, 1); due("scales " + a, model.scales(a), x.scales(a)); break; }
            case 24: road(); break;
            case 25: if (below(4) == 0) { due("arrive", model.arrive(), x.arrive()); } break;
            case 26: { int a = number(-1, Math.max(0, x.count(7) - 1)); due("who " + a, model.who(a), x.who(a)); break; }
            case 27: { int a = number(0, 8); due("count " + a, model.count(a), x.count(a)); break; }
            default: { long a = random.nextLong(); int n = number(1, 8); due("write", model.write(a, n), x.write(a, n)); }
        }
    }

    private void give() {
        int b = boy();
        int t = town();
        due("give " + b + " " + t, model.give(b, t), x.give(b, t));
        if (below(2) == 0) {
            ring();
            for (int i = 0; below(2) == 0 && i < 6; i++) {
                int size = x.ring(1);
                int one = x.ring(10 + i % 6);
                int next = size > 0 ? x.boy(x.ring(10 + (i + 1) % size), 1) : 0;
                due("give " + one + " " + next, model.give(one, next), x.give(one, next));
            }
        }
    }

    private void ring() {
        for (int what : new int[] {0, 1, 10, 11, 12, 13, 14, 15}) {
            due("ring " + what, model.ring(what), x.ring(what));
        }
    }

    private void pays() {
        int town = town();
        int t = number(1, 9);
        int p = below(2) == 0 ? number(0, 99) : below(10);
        int what = number(0, 1);
        due("pays " + town + " " + t + " " + p + " " + what, model.pays(town, t, p, what), x.pays(town, t, p, what));
    }

    private void weigh() {
        int town = town();
        int boy = boy();
        int w = below(5) == 0 ? number(0, 199) : 50 + boy + (town == run % 4 ? 2 : 0);
        due("weigh " + town + " " + boy + " " + w, model.weigh(town, boy, w), x.weigh(town, boy, w));
        due("scales", model.scales(0), x.scales(0));
    }

    private void road() {
        int some = x.boy(boy(), 2);
        int w = some < 1 || below(5) == 0 ? number(1, 99) : some - 1 + below(3);
        int c = below(3) == 0 ? number(0, 3) : below(2);
        due("road " + w + " " + c, model.road(w, c), x.road(w, c));
        for (int i = -1; i < x.count(7); i++) {
            due("who " + i, model.who(i), x.who(i));
        }
    }

    private void lookAtAll() {
        for (int what = 0; what < 9; what++) {
            due("count " + what, model.count(what), x.count(what));
            for (int i = 0; i < 10; i++) {
                due("town " + i + " " + what, model.town(i, what), x.town(i, what));
                due("boy " + i + " " + what, model.boy(i, what), x.boy(i, what));
            }
        }
    }
}
