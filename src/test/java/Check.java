import java.util.Map;
import java.util.Set;
import java.util.function.Function;

/** Counts and prints what the tests find; each check works on an object of its own, so that 512 calls suffice. */
final class Check {
    private static final Set<String> HELPERS = Set.of("Check", "Edges", "Picture");
    private static int passed = 0;
    private static int failed = 0;

    private Check() {
    }

    static void same(String what, Object want, Object got) {
        if (String.valueOf(want).equals(String.valueOf(got))) {
            passed++;
        } else {
            failed++;
            System.out.println(place() + what + " answered " + got + ", due is " + want);
        }
    }

    /** How many checks were made so far. */
    static int made() {
        return passed + failed;
    }

    /** Ends the test program, with exit code 1 if a check failed. */
    static void end(String name) {
        System.out.println(name + ": " + passed + " checks passed, " + failed + " failed");
        if (failed > 0 || passed == 0) {
            System.exit(1);
        }
    }

    /** A new object that has carried out the texts, which "|" parts; no text at all is "". */
    static ChalkWarrants yard(String texts) {
        ChalkWarrants x = new ChalkWarrants();
        for (String text : texts.split("\\|")) {
            if (!text.isEmpty()) {
                carryOut(x, text);
            }
        }
        return x;
    }

    static int carryOut(ChalkWarrants x, String text) {
        type(x, text);
        return x.commands();
    }

    static void type(ChalkWarrants x, String text) {
        for (char sign : text.toCharArray()) {
            x.append(sign);
        }
    }

    /** The answer of a call, or the exact class of what it throws. */
    static String answer(ChalkWarrants x, Function<ChalkWarrants, Object> call) {
        try {
            return String.valueOf(call.apply(x));
        } catch (RuntimeException e) {
            return "throws." + e.getClass().getSimpleName();
        }
    }

    /** After the texts the call answers what is wanted. */
    static void answers(String texts, Object want, Function<ChalkWarrants, Object> call) {
        same("after " + texts + " the call", want, answer(yard(texts), call));
    }

    /** After the texts the call throws, and nothing is changed. */
    static void thrown(String texts, Class<?> exception, Function<ChalkWarrants, Object> call) {
        ChalkWarrants x = yard(texts);
        String before = picture(x) + reasons(x);
        same("after " + texts + " the call", "throws." + exception.getSimpleName(), answer(x, call));
        same("after " + texts + " and the call the state", before, picture(x) + reasons(x));
    }

    /** After the texts the call is refused for the reason with the detail, and nothing else is changed. */
    static void refused(String texts, int number, int detail, Function<ChalkWarrants, Object> call) {
        ChalkWarrants x = yard(texts);
        String before = picture(x);
        same("after " + texts + " the call", "throws.UnsupportedOperationException", answer(x, call));
        same("after " + texts + " the reason", number + " " + detail + " 0", reasons(x));
        same("after " + texts + " and the call the state", before, picture(x));
    }

    /** All that an object tells but for the reason. */
    static String picture(ChalkWarrants x) {
        Map<String, String> all = Picture.of(x);
        all.remove("reason");
        return all.toString();
    }

    /** All of an object that can be undone. */
    static String yardPicture(ChalkWarrants x) {
        return Picture.yard(x).toString();
    }

    static String reasons(ChalkWarrants x) {
        String number = answer(x, y -> y.reason(0));
        return number.startsWith("throws") ? "none" : number + " " + x.reason(1) + " " + x.reason(2);
    }

    /** The characters of the line as it stands. */
    static String shownLine(ChalkWarrants x) {
        StringBuilder signs = new StringBuilder();
        for (int index = 0; index < 100; index++) {
            int at = index;
            String sign = answer(x, y -> y.character(at));
            if (sign.startsWith("throws")) {
                break;
            }
            signs.append(sign);
        }
        return signs.toString();
    }

    static String lineOf(ChalkWarrants x) {
        int length = x.line();
        String shown = shownLine(x);
        same("the length of the line", shown.length(), length);
        return shown;
    }

    static String warrantsOf(ChalkWarrants x) {
        int length = x.warrants();
        String shown = shownLine(x);
        same("the length of the warrants", shown.length(), length);
        return shown;
    }

    private static String place() {
        return StackWalker.getInstance().walk(frames -> frames
                .filter(frame -> !HELPERS.contains(frame.getClassName().replaceAll("\\$.*", "")))
                .findFirst()
                .map(frame -> frame.getClassName() + "." + frame.getMethodName() + ":" + frame.getLineNumber() + ": ")
                .orElse(""));
    }
}
