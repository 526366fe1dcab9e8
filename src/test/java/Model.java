import java.util.ArrayDeque;
import java.util.ArrayList;
import java.util.Comparator;
import java.util.Deque;
import java.util.LinkedHashMap;
import java.util.List;
import java.util.Map;
import java.util.NoSuchElementException;
import java.util.TreeMap;
import java.util.regex.Matcher;
import java.util.regex.Pattern;
import java.util.stream.Collectors;
import java.util.stream.IntStream;

/** The document told a second time, plainly and slowly: maps, copies, all hops tried, texts by a pattern. */
public final class Model {
    private static final Pattern COMMAND = Pattern.compile("n(\\d{1,2})|c(\\d)@(\\d{1,2})|h(\\d):([123]{1,12})|w(\\d)"
            + "|s(\\d)|r(\\d)|t|g(\\d)>(\\d)\\*(\\d{1,2})");
    private static final Pattern TEXT = Pattern.compile("(?:" + COMMAND + ")(?:;(?:" + COMMAND + "))*");
    private static final List<String> HOPS = new ArrayList<>();

    static {
        spread("", -1);
    }

    private static final class Kid {
        int pebbles;
        int treads;
        int hops;
        int trodden;
    }

    private static final class Square {
        final int owner;
        final int chalk;

        Square(int owner, int chalk) {
            this.owner = owner;
            this.chalk = chalk;
        }
    }

    /** What can be undone. */
    private static final class State {
        final Map<Integer, Square> owned = new TreeMap<>();
        final List<Kid> kids = new ArrayList<>();
        final Map<Integer, Integer> warrants = new LinkedHashMap<>();
        final int[] sums = new int[7];

        State copy() {
            State copy = new State();
            copy.owned.putAll(owned);
            copy.warrants.putAll(warrants);
            System.arraycopy(sums, 0, copy.sums, 0, sums.length);
            for (Kid kid : kids) {
                Kid twin = new Kid();
                twin.pebbles = kid.pebbles;
                twin.treads = kid.treads;
                twin.hops = kid.hops;
                twin.trodden = kid.trodden;
                copy.kids.add(twin);
            }
            return copy;
        }
    }

    private static final class Refused extends RuntimeException {
        final int number;
        final int detail;

        Refused(int number, int detail) {
            this.number = number;
            this.detail = detail;
        }
    }

    private interface Change {
        int on(State state);
    }

    private static final int CHEST = 0;
    private static final int BROUGHT = 1;
    private static final int TREADS = 2;
    private static final int WRITTEN = 3;
    private static final int WASHED = 4;
    private static final int LOST = 5;
    private static final int TERMS = 6;

    private State now = new State();
    private State saved;
    private final Deque<State> past = new ArrayDeque<>();
    private String buffer = "";
    private String shown = "";
    private int fault = -1;
    private int[] kept;

    private static void spread(String steps, int square) {
        if (square >= 11) {
            HOPS.add(steps);
            return;
        }
        for (int step = 1; step < 4; step++) {
            spread(steps + step, square + step);
        }
    }

    private static void refuse(boolean applies, int number, int detail) {
        if (applies) {
            throw new Refused(number, detail);
        }
    }

    private int change(Change change) {
        State next = now.copy();
        int answer;
        try {
            answer = change.on(next);
        } catch (Refused e) {
            kept = new int[] {e.number, e.detail, 0};
            throw new UnsupportedOperationException();
        }
        become(next);
        return answer;
    }

    private void become(State next) {
        past.addLast(now);
        if (past.size() > 8) {
            past.removeFirst();
        }
        now = next;
    }

    private static Change coming(int pebbles) {
        return s -> {
            refuse(pebbles < 0 || pebbles > 99, 1, 0);
            refuse(s.kids.size() == 5, 2, 5);
            Kid kid = new Kid();
            kid.pebbles = pebbles;
            s.kids.add(kid);
            s.sums[BROUGHT] += pebbles;
            return s.kids.size() - 1;
        };
    }

    private static Kid kid(State s, int child) {
        refuse(child < 0 || child >= s.kids.size(), 3, s.kids.size());
        return s.kids.get(child);
    }

    private static Change chalking(int child, int square) {
        return s -> {
            Kid kid = kid(s, child);
            refuse(square < 0 || square > 11, 1, 0);
            Square old = s.owned.get(square);
            refuse(old != null && old.owner != child, 4, old == null ? 0 : old.owner);
            refuse(old != null && old.chalk == 9, 6, square);
            refuse(kid.pebbles == 0, 5, 1);
            kid.pebbles--;
            s.sums[CHEST]++;
            int chalk = old == null ? 5 : Math.min(9, old.chalk + 2);
            s.owned.put(square, new Square(child, chalk));
            return chalk;
        };
    }

    /** The squares of a hop, or null if the steps do not fit; the detail is put into end then. */
    private static List<Integer> landings(String steps, int[] end) {
        List<Integer> squares = new ArrayList<>();
        int square = -1;
        for (char step : steps.toCharArray()) {
            if (square >= 11) {
                end[0] = 12;
                return null;
            }
            square += step - '0';
            squares.add(square);
        }
        end[0] = square;
        return square >= 11 ? squares : null;
    }

    private static List<Integer> lines(State s, int child, String steps) {
        return landings(steps, new int[1]).stream()
                .filter(k -> s.owned.containsKey(k) && s.owned.get(k).owner != child)
                .collect(Collectors.toList());
    }

    private static boolean isSteps(String number) {
        return number.matches("[123]{1,9}");
    }

    private static Change hopping(int child, String steps) {
        return s -> {
            Kid kid = kid(s, child);
            refuse(s.warrants.containsKey(child), 7, s.warrants.getOrDefault(child, 0));
            refuse(!steps.matches("[123]{1,12}"), 1, 0);
            int[] end = new int[1];
            refuse(landings(steps, end) == null, 8, end[0]);
            List<Integer> lines = lines(s, child, steps);
            for (int square : lines) {
                Square old = s.owned.remove(square);
                s.kids.get(old.owner).trodden++;
                if (old.chalk > 1) {
                    s.owned.put(square, new Square(old.owner, old.chalk - 1));
                }
            }
            kid.treads += lines.size();
            kid.hops++;
            s.sums[TREADS] += lines.size();
            return lines.size();
        };
    }

    private static Change writing(int child) {
        return s -> {
            Kid kid = kid(s, child);
            refuse(s.warrants.containsKey(child), 7, s.warrants.getOrDefault(child, 0));
            refuse(kid.treads < 3, 9, kid.treads);
            int chalk = Math.min(9, kid.treads);
            s.warrants.put(child, chalk);
            kid.treads = 0;
            s.sums[WRITTEN]++;
            return chalk;
        };
    }

    private static Change striking(int child) {
        return s -> {
            Kid kid = kid(s, child);
            refuse(!s.warrants.containsKey(child), 10, 0);
            int chalk = s.warrants.get(child);
            refuse(kid.pebbles < chalk, 5, chalk - kid.pebbles);
            s.warrants.remove(child);
            kid.pebbles -= chalk;
            s.sums[CHEST] += chalk;
            return kid.pebbles;
        };
    }

    private static Change raining(int rain) {
        return s -> {
            refuse(rain < 1 || rain > 9, 1, 0);
            refuse(s.owned.isEmpty() && s.warrants.isEmpty(), 12, 0);
            int before = s.owned.size() + s.warrants.size();
            int warrants = s.warrants.size();
            s.owned.replaceAll((k, old) -> new Square(old.owner, old.chalk - rain));
            s.owned.values().removeIf(square -> square.chalk <= 0);
            s.warrants.replaceAll((child, chalk) -> chalk - rain);
            s.warrants.values().removeIf(chalk -> chalk <= 0);
            s.sums[WASHED] += warrants - s.warrants.size();
            return before - s.owned.size() - s.warrants.size();
        };
    }

    private static Change ending() {
        return s -> {
            refuse(s.kids.isEmpty(), 13, 0);
            int before = s.owned.size();
            for (int square = 0; square < 12; square++) {
                Square owned = s.owned.get(square);
                if (owned != null && s.kids.get(owned.owner).pebbles > 0) {
                    s.kids.get(owned.owner).pebbles--;
                    s.sums[CHEST]++;
                } else {
                    s.owned.remove(square);
                }
            }
            for (Kid kid : s.kids) {
                int gift = Math.min(1, s.sums[CHEST]);
                kid.pebbles += gift;
                s.sums[CHEST] -= gift;
            }
            s.sums[LOST] += before - s.owned.size();
            s.sums[TERMS]++;
            return before - s.owned.size();
        };
    }

    private static Change giving(int child, int other, int pebbles) {
        return s -> {
            Kid giver = kid(s, child);
            Kid taker = kid(s, other);
            refuse(child == other, 11, child);
            refuse(pebbles < 1 || pebbles > 99, 1, 0);
            refuse(giver.pebbles < pebbles, 5, pebbles - giver.pebbles);
            giver.pebbles -= pebbles;
            taker.pebbles += pebbles;
            return giver.pebbles;
        };
    }

    public int child(int pebbles) {
        return change(coming(pebbles));
    }

    public int chalk(int child, int square) {
        return change(chalking(child, square));
    }

    public int hop(int child, int steps) {
        String number = String.valueOf(steps);
        return change(hopping(child, isSteps(number) ? number : "no steps"));
    }

    public int warrant(int child) {
        return change(writing(child));
    }

    public int strike(int child) {
        return change(striking(child));
    }

    public int rain(int rain) {
        return change(raining(rain));
    }

    public int term() {
        return change(ending());
    }

    public int give(int child, int other, int pebbles) {
        return change(giving(child, other, pebbles));
    }

    public int squareOf(int square, boolean isChalk) {
        if (square < 0 || square > 11) {
            throw new IndexOutOfBoundsException();
        }
        Square owned = now.owned.get(square);
        if (owned == null) {
            return isChalk ? 0 : -1;
        }
        return isChalk ? owned.chalk : owned.owner;
    }

    private Kid known(int child) {
        if (child < 0 || child >= now.kids.size()) {
            throw new IndexOutOfBoundsException();
        }
        return now.kids.get(child);
    }

    public int childOf(int child, int what) {
        Kid kid = known(child);
        if (what < 0 || what > 6) {
            throw new IllegalArgumentException();
        }
        int chalk = now.owned.values().stream().filter(k -> k.owner == child).mapToInt(k -> k.chalk).sum();
        return new int[] {kid.pebbles, kid.treads, now.warrants.getOrDefault(child, 0), Integer.bitCount(squares(child)),
            chalk, kid.hops, kid.trodden}[what];
    }

    public int squares(int child) {
        known(child);
        return set(now, child);
    }

    private static int set(State s, int child) {
        return s.owned.entrySet().stream().filter(e -> e.getValue().owner == child).mapToInt(e -> 1 << e.getKey()).sum();
    }

    public int warrantAt(int place) {
        if (place < 0 || place >= now.warrants.size()) {
            throw new NoSuchElementException();
        }
        return new ArrayList<>(now.warrants.keySet()).get(place);
    }

    private String best(int child) {
        known(child);
        return HOPS.stream().min(Comparator.<String>comparingInt(steps -> lines(now, child, steps).size())
                .thenComparingInt(String::length).thenComparing(Comparator.<String>reverseOrder())).get();
    }

    public int fewest(int child) {
        return lines(now, child, best(child)).size();
    }

    public int fewestAgain(int child) {
        return fewest(child);
    }

    public int step(int child, int place) {
        String best = best(child);
        if (place < 0 || place >= best.length()) {
            throw new NoSuchElementException();
        }
        return best.charAt(place) - '0';
    }

    public int wouldTread(int child, int steps) {
        known(child);
        String number = String.valueOf(steps);
        if (!isSteps(number) || !HOPS.contains(number)) {
            throw new IllegalArgumentException();
        }
        return lines(now, child, number).size();
    }

    public int longest(int child) {
        known(child);
        return longestOf(child);
    }

    private int longestOf(int owner) {
        for (int length = 12; length > 0; length--) {
            for (int first = 0; first + length <= 12; first++) {
                if (IntStream.range(first, first + length).allMatch(k -> squareOf(k, false) == owner)) {
                    return length;
                }
            }
        }
        return 0;
    }

    public int gap() {
        return longestOf(-1);
    }

    public int wouldEnd(int rain) {
        if (rain < 1 || rain > 9) {
            throw new IllegalArgumentException();
        }
        return (int) (now.owned.values().stream().filter(k -> k.chalk <= rain).count()
                + now.warrants.values().stream().filter(chalk -> chalk <= rain).count());
    }

    public int rainFor(int child) {
        known(child);
        if (!now.warrants.containsKey(child)) {
            throw new NoSuchElementException();
        }
        return now.warrants.get(child);
    }

    public int wouldLose(int child) {
        known(child);
        State trial = now.copy();
        ending().on(trial);
        return set(now, child) & ~set(trial, child);
    }

    public int termsFor(int child) {
        known(child);
        State trial = now.copy();
        for (int term = 1; term < 41; term++) {
            ending().on(trial);
            if (set(trial, child) != set(now, child)) {
                return term;
            }
        }
        throw new NoSuchElementException();
    }

    public int ranked(int measure, int place) {
        if (measure < 0 || measure > 3) {
            throw new IllegalArgumentException();
        }
        int what = new int[] {0, 3, 1, 2}[measure];
        List<Integer> order = IntStream.range(0, now.kids.size()).boxed()
                .sorted(Comparator.comparingInt(child -> -childOf(child, what))).collect(Collectors.toList());
        if (place < 0 || place >= order.size()) {
            throw new NoSuchElementException();
        }
        return order.get(place);
    }

    public boolean isEven() {
        return now.sums[BROUGHT] == now.sums[CHEST] + now.kids.stream().mapToInt(kid -> kid.pebbles).sum();
    }

    public int append(char character) {
        if (buffer.length() == 60) {
            throw new IllegalStateException();
        }
        buffer += character;
        return buffer.length();
    }

    private static int faultOf(String text) {
        if (TEXT.matcher(text).matches()) {
            return -1;
        }
        for (int length = 1; length <= text.length(); length++) {
            Matcher matcher = TEXT.matcher(text.substring(0, length));
            if (!matcher.matches() && !matcher.hitEnd()) {
                return length - 1;
            }
        }
        return text.length();
    }

    private static Change commanded(String text) {
        Matcher m = COMMAND.matcher(text);
        m.matches();
        switch (text.charAt(0)) {
            case 'n': return coming(Integer.parseInt(m.group(1)));
            case 'c': return chalking(Integer.parseInt(m.group(2)), Integer.parseInt(m.group(3)));
            case 'h': return hopping(Integer.parseInt(m.group(4)), m.group(5));
            case 'w': return writing(Integer.parseInt(m.group(6)));
            case 's': return striking(Integer.parseInt(m.group(7)));
            case 'r': return raining(Integer.parseInt(m.group(8)));
            case 't': return ending();
            default: return giving(Integer.parseInt(m.group(9)), Integer.parseInt(m.group(10)),
                    Integer.parseInt(m.group(11)));
        }
    }

    public int commands() {
        String text = buffer;
        buffer = "";
        fault = faultOf(text);
        if (fault >= 0) {
            throw new IllegalArgumentException();
        }
        State next = now.copy();
        int index = 0;
        for (String command : text.split(";")) {
            try {
                commanded(command).on(next);
            } catch (Refused e) {
                kept = new int[] {e.number, e.detail, index};
                throw new UnsupportedOperationException();
            }
            index++;
        }
        become(next);
        return index;
    }

    public int faultPosition() {
        return fault;
    }

    public int reason(int what) {
        if (what < 0 || what > 2) {
            throw new IllegalArgumentException();
        }
        if (kept == null) {
            throw new NoSuchElementException();
        }
        return kept[what];
    }

    public int line() {
        shown = IntStream.range(0, 12)
                .mapToObj(k -> now.owned.containsKey(k) ? now.owned.get(k).owner + "/" + now.owned.get(k).chalk : ".")
                .collect(Collectors.joining(" "));
        return shown.length();
    }

    public int warrants() {
        shown = now.warrants.entrySet().stream().map(e -> e.getKey() + "!" + e.getValue()).collect(Collectors.joining(" "));
        return shown.length();
    }

    public char character(int index) {
        if (index < 0 || index >= shown.length()) {
            throw new IndexOutOfBoundsException();
        }
        return shown.charAt(index);
    }

    public double meanChalk() {
        if (now.owned.isEmpty()) {
            throw new ArithmeticException();
        }
        return (double) now.owned.values().stream().mapToInt(k -> k.chalk).sum() / now.owned.size();
    }

    public float ownedShare() {
        return now.owned.size() / 12.0f;
    }

    public int account(int what) {
        if (what < 0 || what > 11) {
            throw new IllegalArgumentException();
        }
        int pebbles = now.kids.stream().mapToInt(kid -> kid.pebbles).sum();
        return new int[] {now.kids.size(), pebbles, now.sums[CHEST], now.owned.size(), now.warrants.size(), now.sums[TREADS],
            now.sums[WRITTEN], now.sums[WASHED], now.sums[LOST], now.sums[TERMS], past.size(), buffer.length()}[what];
    }

    public int undo() {
        if (past.isEmpty()) {
            throw new IllegalStateException();
        }
        now = past.removeLast();
        return past.size();
    }

    public int save() {
        saved = now.copy();
        return now.kids.size();
    }

    public int restore() {
        if (saved == null) {
            throw new IllegalStateException();
        }
        now = saved.copy();
        past.clear();
        return now.kids.size();
    }
}
