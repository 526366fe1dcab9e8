import java.util.ArrayList;
import java.util.LinkedHashMap;
import java.util.List;
import java.util.Map;

/**
 * All that an object tells of its state, by names, so that a test can say what a call changed and that it changed
 * nothing else. Taking one asks at most CALLS questions.
 */
final class Picture {
    static final int CALLS = 140;
    private static final String NONE = "none";

    private Picture() {
    }

    /** The yard and what stands beside it. */
    static Map<String, String> of(ChalkWarrants x) {
        Map<String, String> all = yard(x);
        all.put("undo", "" + x.account(10));
        all.put("text", "" + x.account(11));
        all.put("fault", "" + x.faultPosition());
        all.put("reason", Check.reasons(x));
        all.put("line", Check.shownLine(x));
        return all;
    }

    /** All that can be undone. */
    static Map<String, String> yard(ChalkWarrants x) {
        Map<String, String> all = new LinkedHashMap<>();
        for (int square = 0; square < 12; square++) {
            all.put("s" + square, square(x, square));
        }
        int children = x.account(0);
        for (int child = 0; child < children; child++) {
            all.put("p" + child, "" + x.childOf(child, 0));
            all.put("t" + child, "" + x.childOf(child, 1));
            all.put("w" + child, "" + x.childOf(child, 2));
            all.put("h" + child, "" + x.childOf(child, 5));
            all.put("o" + child, "" + x.childOf(child, 6));
        }
        all.put("order", order(x));
        all.put("children", "" + children);
        all.put("chest", "" + x.account(2));
        all.put("treads", "" + x.account(5));
        all.put("written", "" + x.account(6));
        all.put("washed", "" + x.account(7));
        all.put("lost", "" + x.account(8));
        all.put("terms", "" + x.account(9));
        checkSums(x, children, all);
        return all;
    }

    /** What is another one in the later picture, as name=value; what a child has that was not there yet was 0. */
    static String changes(Map<String, String> before, Map<String, String> after) {
        List<String> found = new ArrayList<>();
        for (Map.Entry<String, String> entry : after.entrySet()) {
            if (!entry.getValue().equals(before.getOrDefault(entry.getKey(), "0"))) {
                found.add(entry.getKey() + "=" + entry.getValue());
            }
        }
        for (String name : before.keySet()) {
            if (!after.containsKey(name)) {
                found.add("no " + name);
            }
        }
        return String.join(" ", found);
    }

    private static String square(ChalkWarrants x, int square) {
        int owner = x.squareOf(square, false);
        int chalk = x.squareOf(square, true);
        return owner == -1 && chalk == 0 ? "." : owner + "/" + chalk;
    }

    private static String order(ChalkWarrants x) {
        List<String> order = new ArrayList<>();
        int warrants = x.account(4);
        for (int place = 0; place < warrants; place++) {
            order.add("" + x.warrantAt(place));
        }
        return order.isEmpty() ? NONE : String.join(",", order);
    }

    /** What is told of several squares or children together must be the sum of what is told of each. */
    private static void checkSums(ChalkWarrants x, int children, Map<String, String> all) {
        int owned = 0;
        int pebbles = 0;
        int warrants = 0;
        for (int child = 0; child < children; child++) {
            int set = 0;
            int chalk = 0;
            for (int square = 0; square < 12; square++) {
                String told = all.get("s" + square);
                if (told.startsWith(child + "/")) {
                    set |= 1 << square;
                    chalk += Integer.parseInt(told.substring(2));
                }
            }
            Check.same("the squares of " + child, set, x.squares(child));
            Check.same("their number", Integer.bitCount(set), x.childOf(child, 3));
            Check.same("their chalk", chalk, x.childOf(child, 4));
            owned += Integer.bitCount(set);
            pebbles += Integer.parseInt(all.get("p" + child));
            warrants += all.get("w" + child).equals("0") ? 0 : 1;
        }
        Check.same("the squares owned", owned, x.account(3));
        Check.same("the pebbles together", pebbles, x.account(1));
        Check.same("the warrants", warrants, x.account(4));
        Check.same("whether it is even", true, x.isEven());
    }
}
