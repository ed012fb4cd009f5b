import java.util.LinkedHashMap;
import java.util.Map;

/** All that an object tells of itself, so that two of them can be held against one another. */
final class State {
    private static final int MOST_TOWNS = 6, MOST_BOYS = 10, MOST_ON_ROAD = 6;

    private State() {
    }

    /** What calls tell that change nothing (some 140 of the 512 that an object has). */
    static Map<String, Integer> of(PoundBoys x) {
        Map<String, Integer> told = new LinkedHashMap<>();
        for (int what = 0; what < 9; what++) {
            told.put("count(" + what + ")", x.count(what));
        }
        for (int town = 0; town < MOST_TOWNS; town++) {
            for (int what = 0; what < 7; what++) {
                told.put("town(" + town + ", " + what + ")", x.town(town, what));
            }
            told.put("balance(" + town + ")", x.balance(town));
        }
        putBoys(told, x);
        told.put("judge()", x.judge());
        for (int what : new int[] {0, 1, 10, 11, 12, 13, 14, 15}) {
            told.put("ring(" + what + ")", x.ring(what));
        }
        told.put("fault()", x.fault());
        told.put("scales(0)", x.scales(0));
        told.put("scales(1)", x.scales(1));
        for (int i = -1; i < MOST_ON_ROAD; i++) {
            told.put("who(" + i + ")", x.who(i));
        }
        return told;
    }

    private static void putBoys(Map<String, Integer> told, PoundBoys x) {
        for (int boy = 0; boy < MOST_BOYS; boy++) {
            for (int what = 0; what < 6; what++) {
                told.put("boy(" + boy + ", " + what + ")", x.boy(boy, what));
            }
        }
    }

    /** Besides, what was kept and the bytes of the text: these are told by calls that change the object. */
    static Map<String, Integer> ofAll(PoundBoys x) {
        Map<String, Integer> told = of(x);
        for (int k = 0; k < 2; k++) {
            told.put("back(" + k + ")", x.back(k));
            Map<String, Integer> boys = new LinkedHashMap<>();
            putBoys(boys, x);
            for (int town = 0; town < MOST_TOWNS; town++) {
                boys.put("town(" + town + ", 5)", x.town(town, 5));
            }
            for (String call : boys.keySet()) {
                told.put("back(" + k + "), then " + call, boys.get(call));
            }
        }
        told.put("league()", x.league());
        for (int what = 0; what < 9; what++) {
            told.put("league(), then count(" + what + ")", x.count(what));
        }
        return told;
    }

    /** Whether all is the same, but for the calls that begin so. */
    static void same(String when, Map<String, Integer> want, Map<String, Integer> got, String... but) {
        for (String call : want.keySet()) {
            if (!beginsWithOne(call, but)) {
                Check.due(when + ": " + call, want.get(call), got.get(call));
            }
        }
    }

    private static boolean beginsWithOne(String call, String[] begins) {
        for (String begin : begins) {
            if (call.startsWith(begin)) {
                return true;
            }
        }
        return false;
    }
}
