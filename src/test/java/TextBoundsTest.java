/** "Terms", section 1: what THE TEXT can tell of TOWNS and BOYS, each bound from both sides, each FAULT at its place. */
public final class TextBoundsTest {
    private static final int NONE = -1, UNKNOWN = -2, NOT = -4, FULL = -5, MORE = 10000000;
    private static final String[] KINDS = {"plain", "fool", "half", "prodigy"};
    private static final String[] LAWS = {"heavy", "light", "least", "none"};
    private static final String ONE = "plain 0 1 0 0";

    /** Stands for the bounds of a TOWN, which are those of the league that there is. */
    private static final int[] TOWN = {};

    /** A line's word, and the bounds of its numbers. */
    private record Form(String word, int[]... bounds) {
    }

    private static final Form[] FORMS = {
        new Form("league", new int[] {2, 6}),
        new Form("town", TOWN, new int[] {0, 3}, new int[] {1, 9}, new int[] {0, 3}),
        new Form("want", TOWN, new int[] {0, 3}),
        new Form("next", TOWN, TOWN),
        new Form("plain", TOWN, new int[] {1, 99}, new int[] {0, 3}, new int[] {0, 9}),
        new Form("fool", TOWN, new int[] {1, 99}, new int[] {0, 3}, new int[] {0, 9}),
        new Form("half", TOWN, new int[] {1, 99}, new int[] {0, 3}, new int[] {0, 9}),
        new Form("prodigy", TOWN, new int[] {1, 99}, new int[] {0, 3}, new int[] {0, 9}),
        new Form("heavy"), new Form("light"), new Form("least"), new Form("none"),
        new Form("slack", new int[] {0, 999}),
        new Form("free")
    };

    public static void main(String[] args) {
        boundsOfNumbers();
        townsBehindTheLinesAhead();
        digitsOfNumbers();
        endsTooSoon();
        tokensThatCannotStandThere();
        nextIsAnother();
        words();
        anyByteAtAnyPlace();
        tenLines();
        twoHundredBytes();
        bytesOfAWrite();
        blanksBetween();
        tenBoys();
        towns();
        whatATownIsToldAs();
        whatABoyIsToldAs();
        lawAndSlack();
        linesInTheirOrder();
        whatIsThereBehindAText();
        aTextWithAFaultDoesNothing();
        Check.end();
    }

    private static void due(String call, long want, long got) {
        Check.due(call, want, got);
    }

    private static int[] boundsOf(Form form, int slot, int towns) {
        int[] bounds = form.bounds[slot];
        return bounds == TOWN ? new int[] {0, towns - 1} : bounds;
    }

    /** Numbers that can stand in such a line, with that one in its slot. */
    private static String[] numbersWith(Form form, int slot, String number, int towns) {
        String[] numbers = new String[form.bounds.length];
        for (int i = 0; i < numbers.length; i++) {
            numbers[i] = String.valueOf(boundsOf(form, i, towns)[0]);
        }
        if (slot < numbers.length) {
            numbers[slot] = number;
        }
        if (form.word.equals("next") && Integer.parseInt(numbers[0]) == Integer.parseInt(numbers[1])) {
            numbers[slot == 1 ? 0 : 1] = "1";
        }
        return numbers;
    }

    /** The word and the first so many of the numbers. */
    private static String line(Form form, String[] numbers, int many) {
        StringBuilder text = new StringBuilder(form.word);
        for (int i = 0; i < many; i++) {
            text.append(' ').append(numbers[i]);
        }
        return text.toString();
    }

    private static int placeOf(Form form, String[] numbers, int slot) {
        return line(form, numbers, slot).length() + 1;
    }

    /** Where the fault of a text is, told to a league of so many towns; it is there behind other lines too. */
    private static void faultIs(int towns, String text, int place) {
        for (String ahead : new String[] {"", "free;", "none ; slack  17;", "free;".repeat(9)}) {
            PoundBoys x = Check.told("league " + towns);
            Check.write(x, ahead + text);
            String of = "'" + ahead + text + "', " + towns + " towns";
            due("fault() of " + of, place == NONE ? NONE : ahead.length() + place, x.fault());
            int lines = (ahead + text).split(";", -1).length;
            due("league() of " + of, place == NONE ? lines : NOT, x.league());
            due("count(8) behind it", place == NONE ? 0 : ahead.length() + text.length(), x.count(8));
        }
    }

    /** "a number out of its bounds": the least and the most one stand, one less and one more do not. */
    private static void boundsOfNumbers() {
        for (int towns = 2; towns <= 6; towns++) {
            for (Form form : FORMS) {
                for (int slot = 0; slot < form.bounds.length; slot++) {
                    int[] bounds = boundsOf(form, slot, towns);
                    for (int number = Math.max(0, bounds[0] - 1); number <= bounds[1] + 1; number++) {
                        if (number > bounds[0] + 1 && number < bounds[1] - 1) {
                            continue;
                        }
                        boolean isIn = number >= bounds[0] && number <= bounds[1];
                        String[] numbers = numbersWith(form, slot, String.valueOf(number), towns);
                        int place = placeOf(form, numbers, slot);
                        faultIs(towns, line(form, numbers, numbers.length), isIn ? NONE : place);
                    }
                }
            }
        }
    }

    /** "TOWNS that there are behind the LINES ahead". */
    private static void townsBehindTheLinesAhead() {
        for (int before = 2; before <= 6; before++) {
            for (int towns = 2; towns <= 6; towns++) {
                for (String rest : new String[] {"town # 0 1 1", "want # 0", "next # 0", "next 0 #", "half # 1 0 0"}) {
                    String text = "league " + towns + ";" + rest;
                    int place = text.indexOf('#');
                    faultAlone(before, text.replace("#", String.valueOf(towns - 1)), NONE);
                    faultAlone(before, text.replace("#", String.valueOf(towns)), place);
                    String late = rest + ";league " + towns;
                    faultAlone(before, late.replace("#", String.valueOf(before - 1)), NONE);
                    faultAlone(before, late.replace("#", String.valueOf(before)), late.indexOf('#'));
                }
            }
        }
    }

    /** As faultIs, without lines ahead. */
    private static void faultAlone(int towns, String text, int place) {
        PoundBoys x = Check.told("league " + towns);
        Check.write(x, text);
        due("fault() of '" + text + "', " + towns + " towns", place, x.fault());
        due("league() of it", place == NONE ? text.split(";", -1).length : NOT, x.league());
    }

    /** "numbers of 1 to 3 digits", "of more digits, also". */
    private static void digitsOfNumbers() {
        for (Form form : FORMS) {
            for (int slot = 0; slot < form.bounds.length; slot++) {
                String least = String.valueOf(boundsOf(form, slot, 3)[0]);
                for (int digits = least.length(); digits <= 5; digits++) {
                    String[] numbers = numbersWith(form, slot, "0".repeat(digits - least.length()) + least, 3);
                    faultIs(3, line(form, numbers, numbers.length), digits <= 3 ? NONE : placeOf(form, numbers, slot));
                }
                // Of so many digits that a number of 32 or 64 bits goes around to one within the bounds.
                for (String around : new String[] {"4294967298", "18446744073709551618", "1" + "0".repeat(64) + "2"}) {
                    String[] numbers = numbersWith(form, slot, least, 3);
                    numbers[slot] = around;
                    faultIs(3, line(form, numbers, numbers.length), placeOf(form, numbers, slot));
                }
            }
        }
    }

    /** "or at the end, if it comes too soon": the place is the length then, blanks at the end with it. */
    private static void endsTooSoon() {
        for (Form form : FORMS) {
            String[] numbers = numbersWith(form, form.bounds.length, "", 3);
            for (int many = 0; many < numbers.length; many++) {
                String text = line(form, numbers, many);
                faultIs(3, text, text.length());
                faultIs(3, text + "   ", text.length() + 3);
                faultIs(3, text + ";", text.length());
                faultIs(3, text + " ;free", text.length() + 1);
            }
            String whole = line(form, numbers, numbers.length);
            PoundBoys x = Check.told("league 3");
            Check.write(x, whole + ";");
            due("a line is due behind '" + whole + ";'", whole.length() + 1, x.fault());
        }
        for (int blanks = 0; blanks < 4; blanks++) {
            PoundBoys x = new PoundBoys();
            Check.write(x, " ".repeat(blanks));
            due("fault() of " + blanks + " blanks", blanks, x.fault());
            due("league() of " + blanks + " blanks", NOT, x.league());
        }
    }

    private static void tokensThatCannotStandThere() {
        for (Form form : FORMS) {
            String[] numbers = numbersWith(form, form.bounds.length, "", 3);
            for (String token : new String[] {"x", "free", ".", "-", ",", "A"}) {
                for (int slot = 0; slot < numbers.length; slot++) {
                    String text = line(form, numbers, slot);
                    faultIs(3, text + " " + token, text.length() + 1);
                    faultIs(3, text + " " + token + "1 x", text.length() + 1);
                }
                String whole = line(form, numbers, numbers.length);
                faultIs(3, whole + " " + token, whole.length() + 1);
                faultIs(3, whole + " 7" + token, whole.length() + 1);
            }
        }
    }

    /** "U not T (else a FAULT at U)". */
    private static void nextIsAnother() {
        for (int towns = 2; towns <= 6; towns++) {
            for (int t = 0; t < towns; t++) {
                for (int u = 0; u < towns; u++) {
                    PoundBoys x = Check.told("league " + towns);
                    Check.write(x, "next " + t + " " + u);
                    due("fault() of next " + t + " " + u, t == u ? 7 : NONE, x.fault());
                    due("league() of next " + t + " " + u, t == u ? NOT : 1, x.league());
                    due("next of " + t, t == u ? (t + 1) % towns : u, x.town(t, 4));
                }
            }
        }
        faultIs(3, "next 1 001", 7);
        faultIs(3, "next 001 1", 9);
        faultIs(3, "next 1 1 1", 7);
    }

    /** A word stands whole, in small letters, and no other one does. */
    private static void words() {
        for (Form form : FORMS) {
            String rest = line(form, numbersWith(form, form.bounds.length, "", 3), form.bounds.length).substring(form.word.length());
            faultIs(3, form.word.substring(1) + rest, 0);
            faultIs(3, form.word.substring(0, form.word.length() - 1) + rest, 0);
            faultIs(3, form.word + "s" + rest, 0);
            faultIs(3, "a" + form.word + rest, 0);
            faultIs(3, form.word.toUpperCase() + rest, 0);
            faultIs(3, form.word.charAt(0) + " " + form.word.substring(1) + rest, 0);
            for (int i = 0; i < form.word.length(); i++) {
                char other = form.word.charAt(i) == 'z' ? 'y' : 'z';
                faultIs(3, form.word.substring(0, i) + other + form.word.substring(i + 1) + rest, 0);
            }
        }
        for (String word : new String[] {"a", "z", "boy", "craft", "law", "wants", "towns", "fools", "halves"}) {
            faultIs(3, word, 0);
        }
    }

    /** "small letters a .. z", digits, ";" (59), "blanks (32)", "any other byte": all 256, in four places. */
    private static void anyByteAtAnyPlace() {
        for (int b = 0; b < 256; b++) {
            boolean isLetter = b >= 97 && b <= 122;
            boolean isDigit = b >= 48 && b <= 57;
            oneByte("", b, "", b == 32 ? 1 : 0);
            oneByte("light", b, "", b == 32 ? NONE : b == 59 ? 6 : isLetter ? 0 : 5);
            oneByte("light", b, "none", b == 59 ? NONE : b == 32 ? 6 : isLetter ? 0 : 5);
            oneByte("slack 1", b, "2", isDigit ? NONE : b == 32 ? 8 : b == 59 ? 8 : 7);
            oneByte("slack ", b, "", isDigit ? NONE : b == 32 ? 7 : 6);
            oneByte("free; ", b, " x", b == 32 ? 8 : 6);
        }
    }

    private static void oneByte(String ahead, int b, String behind, int place) {
        PoundBoys x = new PoundBoys();
        Check.write(x, ahead);
        x.write(b, 1);
        Check.write(x, behind);
        due("fault() of '" + ahead + "', byte " + b + ", '" + behind + "'", place, x.fault());
    }

    /** "LINES with ; (59) between, 10 at most": the tenth ; cannot stand there. */
    private static void tenLines() {
        for (int lines = 1; lines <= 12; lines++) {
            PoundBoys x = new PoundBoys();
            Check.write(x, "slack 1" + ";none".repeat(lines - 1));
            due("fault() of " + lines + " lines", lines <= 10 ? NONE : 7 + 5 * 9, x.fault());
            due("league() of " + lines + " lines", lines <= 10 ? lines : NOT, x.league());
            due("law", lines <= 10 && lines > 1 ? 3 : 0, x.count(2));
            due("slack", lines <= 10 ? 1 : 0, x.count(3));
        }
        for (String behind : new String[] {";", " ;", ";x", ";;", "; 5"}) {
            PoundBoys x = new PoundBoys();
            Check.write(x, "none" + ";none".repeat(9) + behind);
            due("fault() of ten lines and '" + behind + "'", 49 + behind.indexOf(';'), x.fault());
        }
    }

    /** "THE TEXT is a row of bytes, 200 at most". */
    private static void twoHundredBytes() {
        PoundBoys x = new PoundBoys();
        for (int i = 0; i < 5; i++) {
            due("write", 1 + i, x.write("slack".charAt(i), 1));
        }
        for (int i = 5; i < 199; i++) {
            due("write", 1 + i, x.write(' ', 1));
        }
        due("fault() of 199 bytes", 199, x.fault());
        due("the 200th byte", 200, x.write('8', 1));
        due("fault() of 200 bytes", NONE, x.fault());
        due("the 201st byte", FULL, x.write('8', 1));
        due("count(8)", 200, x.count(8));
        due("league() of 200 bytes", 1, x.league());
        due("the 200th byte was read", 8, x.count(3));
        due("there is room again", 8, x.write(0, 8));
        for (int i = 2; i <= 25; i++) {
            due("write", 8 * i, x.write(0, 8));
        }
        due("the text is full again", FULL, x.write(0, 8));
        due("erase() of 200", 200, x.erase());
        due("there is room again", 8, x.write(0, 8));
    }

    /** "byte i being bytes >> 8 i & 255", n of them. */
    private static void bytesOfAWrite() {
        String text = "slack 73";
        for (int n = 1; n <= 8; n++) {
            PoundBoys x = new PoundBoys();
            // The bytes from n on are none of the text.
            long bytes = n == 8 ? Check.packed(text) : Check.packed(text.substring(0, n)) | -1L << 8 * n;
            due("write n " + n, n, x.write(bytes, n));
            Check.write(x, text.substring(n));
            due("league()", 1, x.league());
            due("slack", 73, x.count(3));
        }
        for (int b = 128; b < 256; b++) {
            PoundBoys x = new PoundBoys();
            // The eighth byte has the sign of all.
            x.write(Check.packed("none   ") | (long) b << 56, 8);
            due("byte " + b + " is the eighth", 7, x.fault());
        }
    }

    private static void blanksBetween() {
        for (int blanks = 1; blanks < 6; blanks++) {
            String between = " ".repeat(blanks);
            PoundBoys x = Check.told("town" + between + "2" + between + "3" + between + "9" + between + "0");
            due("craft", 3, x.town(2, 0));
            due("rate", 9, x.town(2, 1));
            due("food", 0, x.town(2, 2));
        }
        faultIs(3, "slack 9 9", 8);
        faultIs(3, "sla ck 9", 0);
    }

    /** Ten boys, of the kinds in turn. */
    private static PoundBoys ofBoys(int many) {
        PoundBoys x = new PoundBoys();
        for (int i = 0; i < many; i++) {
            Check.tell(x, KINDS[i % 4] + " 2 " + (i + 1) + " 1 5");
        }
        return x;
    }

    /** "10 at most", "an eleventh cannot stand there (at its word)". */
    private static void tenBoys() {
        for (String kind : KINDS) {
            for (int many = 8; many <= 10; many++) {
                PoundBoys x = ofBoys(many);
                due("boys", many, x.count(1));
                due("the last one", many, x.boy(many - 1, 2));
                due("no one behind him", UNKNOWN, x.boy(many, 2));
                Check.write(x, "slack 5; " + kind + " 0 9 0 0");
                due("fault() of " + kind + " behind " + many, many == 10 ? 9 : NONE, x.fault());
                due("league()", many == 10 ? NOT : 2, x.league());
                due("boys behind it", Math.min(10, many + 1), x.count(1));
                x.erase();
                // His word is ahead of his numbers.
                Check.write(x, kind + " 9 0 4 10");
                due("fault() of a wrong one more", many >= 9 ? 0 : kind.length() + 1, x.fault());
            }
            PoundBoys x = ofBoys(9);
            Check.write(x, ONE + ";" + kind);
            due("the tenth and the eleventh in one text", 14, x.fault());
            x = ofBoys(10);
            for (String ahead : new String[] {"free;", "league 3;"}) {
                x.erase();
                Check.write(x, ahead + (ONE + ";").repeat(8) + kind + " 1 1 1 1");
                due("nine behind " + ahead, NONE, x.fault());
            }
        }
        PoundBoys x = ofBoys(10);
        Check.tell(x, "free" + (";" + ONE).repeat(9));
        Check.tell(x, ONE);
        Check.write(x, ONE);
        due("the eleventh behind free", 0, x.fault());
        x.erase();
        Check.tell(x, "free");
        due("none behind free", 0, x.count(1));
        due("boy 0 is gone", UNKNOWN, x.boy(0, 0));
        Check.tell(x, "free");
        due("free of none", 0, x.count(1));
        Check.tell(x, ONE);
        Check.write(x, "free" + (";" + ONE).repeat(9));
        due("free, then nine", NONE, x.fault());
    }

    /** "TOWNS are 0 .. n less 1 (n 2 .. 6; 3 at first)", and what each is at first. */
    private static void towns() {
        due("towns at first", 3, new PoundBoys().count(0));
        for (int n = 2; n <= 6; n++) {
            PoundBoys x = Check.told("league " + n);
            due("count(0)", n, x.count(0));
            for (int town = 0; town < n; town++) {
                int[] first = {0, 1, 1, NONE, town == n - 1 ? 0 : town + 1, MORE, 0};
                for (int what = 0; what < 7; what++) {
                    due("league " + n + ": town(" + town + ", " + what + ")", first[what], x.town(town, what));
                }
            }
            due("league " + n + ": town(" + n + ", 0)", UNKNOWN, x.town(n, 0));
            due("league " + n + ": balance(" + n + ")", UNKNOWN, x.balance(n));
            due("league " + n + ": owed(" + n + ", 0)", UNKNOWN, x.owed(n, 0));
            due("league " + n + ": without(0)", (1 << n) - 1, x.without(0));
            due("league " + n + ": scales(0)", (1 << n) - 1, x.scales(0));
        }
    }

    private static void whatATownIsToldAs() {
        int[][] rows = {{0, 1, 0}, {3, 9, 3}, {0, 9, 0}, {3, 1, 3}, {1, 2, 1}};
        for (int town = 0; town < 6; town++) {
            PoundBoys x = Check.told("league 6");
            for (int[] row : rows) {
                Check.tell(x, "town " + town + " " + row[0] + " " + row[1] + " " + row[2]);
                for (int other = 0; other < 6; other++) {
                    int[] first = {0, 1, 1};
                    for (int what = 0; what < 3; what++) {
                        due("town(" + other + ", " + what + ")", (other == town ? row : first)[what], x.town(other, what));
                    }
                }
            }
            for (int craft = 0; craft <= 3; craft++) {
                Check.tell(x, "want " + town + " " + craft);
                due("want of " + town, craft, x.town(town, 3));
            }
            due("want of another", NONE, x.town((town + 1) % 6, 3));
        }
    }

    private static void whatABoyIsToldAs() {
        int[][] rows = {{0, 1, 0, 0}, {5, 99, 3, 9}, {2, 98, 1, 8}};
        PoundBoys x = Check.told("league 6");
        for (int kind = 0; kind < 4; kind++) {
            for (int[] row : rows) {
                Check.tell(x, "free;" + KINDS[kind] + " " + row[0] + " " + row[1] + " " + row[2] + " " + row[3]);
                due("kind", kind, x.boy(0, 0));
                for (int what = 1; what < 5; what++) {
                    due("boy(0, " + what + ")", row[what - 1], x.boy(0, what));
                }
                due("boys of his town", 1, x.town(row[0], 6));
            }
        }
    }

    private static void lawAndSlack() {
        PoundBoys x = new PoundBoys();
        due("law at first", 0, x.count(2));
        due("slack at first", 0, x.count(3));
        for (int law = 3; law >= 0; law--) {
            Check.tell(x, LAWS[law]);
            due(LAWS[law], law, x.count(2));
        }
        for (int slack : new int[] {999, 998, 1, 0}) {
            Check.tell(x, "slack " + slack);
            due("slack", slack, x.count(3));
        }
    }

    private static void linesInTheirOrder() {
        PoundBoys x = Check.told("slack 5;light;town 0 3 9 3;want 0 2;next 0 2;" + ONE + ";league 3");
        State.same("league 3 is the last line", State.of(new PoundBoys()), State.of(x));
        Check.tell(x, "league 3;slack 5;light;town 0 3 9 3;want 0 2;next 0 2;" + ONE);
        int[] town = {3, 9, 3, 2, 2, MORE, 1};
        for (int what = 0; what < 7; what++) {
            due("league 3 is the first line: town(0, " + what + ")", town[what], x.town(0, what));
        }
        due("slack", 5, x.count(3));
        due("law", 1, x.count(2));
        Check.tell(x, "town 0 1 1 1;town 0 2 2 2;want 0 1;want 0 0;next 0 2;next 0 1;slack 1;slack 2;least;none");
        int[] last = {2, 2, 2, 0, 1};
        for (int what = 0; what < 5; what++) {
            due("the last line counts: town(0, " + what + ")", last[what], x.town(0, what));
        }
        due("the last slack", 2, x.count(3));
        due("the last law", 3, x.count(2));
        Check.tell(x, ONE + ";free;fool 1 2 0 0;half 1 3 0 0");
        due("free ahead of two", 2, x.count(1));
        due("they come in their order", 1, x.boy(0, 0));
        due("they come in their order", 2, x.boy(1, 0));
        Check.tell(x, ONE + ";free");
        due("free behind one", 0, x.count(1));
    }

    /** "it is YEAR 0, BOYS are as told, no CHEESE is owed, no EXCHANGE, no SCALES, no ROAD is told, nothing is kept". */
    private static void whatIsThereBehindAText() {
        String first = "league 4;town 0 0 2 2;town 1 1 3 0;want 0 1;want 1 0;slack 400;least";
        String boys = "plain 0 30 0 5;half 1 41 1 3;prodigy 2 20 2 1;fool 3 50 0 0";
        for (String last : new String[] {"slack 3", "free", "light;town 3 1 5 3", "plain 0 9 1 1", "league 5", "next 0 3"}) {
            PoundBoys x = Check.told(first, boys);
            x.give(0, 1);
            x.give(1, 0);
            due("deal()", 2, x.deal());
            x.keep(0);
            x.go(5);
            x.keep(1);
            x.give(2, 0);
            x.weigh(0, 0, 5);
            x.weigh(0, 0, 6);
            x.road(50, 0);
            Check.tell(x, last);
            State.same("behind " + last, State.ofAll(Check.told(first, boys, last)), State.ofAll(x));
        }
    }

    private static void aTextWithAFaultDoesNothing() {
        String[] lines = {"league 6", "town 0 3 9 3", "want 0 3", "next 0 2", "prodigy 0 9 0 0", "light", "least", "none", "slack 9", "free"};
        for (String line : lines) {
            PoundBoys x = Check.told("heavy;slack 8;" + ONE);
            PoundBoys twin = Check.told("heavy;slack 8;" + ONE);
            Check.write(x, line + ";?");
            Check.write(twin, "?");
            due("fault() of " + line + ";?", line.length() + 1, x.fault());
            due("league() of " + line + ";?", NOT, x.league());
            State.same("behind " + line + ";?", State.of(twin), State.of(x), "count(8)", "fault");
        }
    }
}
