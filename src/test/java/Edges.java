import java.lang.reflect.InvocationTargetException;
import java.lang.reflect.Method;
import java.lang.reflect.Modifier;
import java.util.Arrays;
import java.util.Comparator;
import java.util.LinkedHashMap;
import java.util.Map;

/**
 * What the tests of boundaries share. Each of their rows works on an object of its own: what came before is told by
 * parts with "|" between them, each of them a text that is carried out ("n9;c0@2"), a text that is only typed
 * ("~n9;c0@2"), a call in words ("hop 0 3333"), or a call that may throw ("?hop 0 3").
 */
abstract class Edges {
    static final String REFUSED = "throws.UnsupportedOperationException";
    static final String NO_INDEX = "throws.IndexOutOfBoundsException";
    static final String NO_ARGUMENT = "throws.IllegalArgumentException";
    static final String NO_ELEMENT = "throws.NoSuchElementException";
    static final String NO_STATE = "throws.IllegalStateException";
    static final String NO_MEAN = "throws.ArithmeticException";

    /** Child 0 owns the squares 2, 5, 8 and 11, each with chalk 5; both children have 9 pebbles to begin with. */
    static final String LINES = "n9;n9;c0@2;c0@5;c0@8;c0@11";
    /** Child 1 has trodden on all four, and there is no warrant yet. */
    static final String TROD = LINES + "|h1:3333";
    /** The warrant against child 1 has chalk 4, as each of the squares has. */
    static final String WANTED = TROD + "|w1";
    /** Child 1 has 9 treads; the square 2 has chalk 2, the others have chalk 3. */
    static final String NINE = LINES + "|h1:3333;h1:3333;h1:32333";
    /** The children 1, 2 and 3 have 3 treads each; child 0 owns the squares 2, 5 and 8, each with chalk 2. */
    static final String THREE = "n9;n9;n9;n9;c0@2;c0@5;c0@8|h1:3333;h2:3333;h3:3333";
    static final String FIVE = "n1;n2;n3;n4;n5";
    /** To stand behind a text that lets children come: child 0 owns all squares, for 12 pebbles. */
    static final String ALL = "|c0@0;c0@1;c0@2;c0@3;c0@4;c0@5;c0@6;c0@7;c0@8;c0@9;c0@10|c0@11";

    private static final Map<String, Method> METHODS = new LinkedHashMap<>();

    static {
        Arrays.stream(ChalkWarrants.class.getDeclaredMethods())
                .filter(method -> Modifier.isPublic(method.getModifiers()))
                .forEach(method -> METHODS.put(method.getName(), method));
    }

    /** Runs all tests of the class that quote a sentence. */
    static void run(Class<?> tests) throws ReflectiveOperationException {
        Method[] methods = Arrays.stream(tests.getDeclaredMethods())
                .filter(method -> method.isAnnotationPresent(Says.class))
                .sorted(Comparator.comparing(Method::getName)).toArray(Method[]::new);
        for (Method method : methods) {
            int before = Check.made();
            method.invoke(null);
            Check.same("whether " + method.getName() + " checks anything", true, Check.made() > before);
        }
        Check.end(tests.getSimpleName());
    }

    /** After what came before, the call answers what is due, and just the names told are changed then. */
    static void row(String before, String words, Object due, String changed) {
        ChalkWarrants x = after(before);
        String told = "after " + before + " the call " + words;
        Map<String, String> first = Picture.of(x);
        Check.same(told, due, call(x, words));
        Check.same(told + " as to what it changed", changed, Picture.changes(first, Picture.of(x)));
    }

    /** The call answers what is due, and changes nothing. */
    static void tells(String before, String words, Object due) {
        row(before, words, due, "");
    }

    /** The call is refused for the reason, and changes nothing but the reason that is kept. */
    static void refused(String before, String words, String reason) {
        row(before, words, REFUSED, "reason=" + reason);
    }

    /** After what came before, the text is typed and carried out; the buffer is empty ahead of it and behind it. */
    static void text(String before, String text, Object due, String changed) {
        ChalkWarrants x = after(before);
        String told = "after " + before + " the text " + text;
        Map<String, String> first = Picture.of(x);
        Check.type(x, text);
        Check.same(told, due, call(x, "commands"));
        Check.same(told + " as to what it changed", changed, Picture.changes(first, Picture.of(x)));
    }

    /** The text is refused for the reason, and changes nothing but the reason that is kept. */
    static void refusedText(String before, String text, String reason) {
        text(before, text, REFUSED, "reason=" + reason);
    }

    /** The text has a fault there, and changes nothing but the fault position. */
    static void fault(String text, int position) {
        text(LINES, text, NO_ARGUMENT, "fault=" + position);
    }

    /** The words with the child in the place of "#" throw for each child that is not there. */
    static void noChild(String before, int children, String words) {
        for (String child : new String[] {"-1", "" + children, "" + (children + 1), "MIN", "MAX"}) {
            tells(before, words.replace("#", child), NO_INDEX);
        }
    }

    /** The words with the child in the place of "#" are refused for each child that is not there. */
    static void refusedChild(String before, int children, String words) {
        for (String child : new String[] {"-1", "" + children, "" + (children + 1), "MIN", "MAX"}) {
            refused(before, words.replace("#", child), "3 " + children + " 0");
        }
    }

    /** A new object after what came before. */
    static ChalkWarrants after(String before) {
        if (before.length() + 2 * Picture.CALLS > 512) {
            throw new IllegalStateException("too much for the calls of one object: " + before);
        }
        ChalkWarrants x = new ChalkWarrants();
        for (String part : before.split("\\|")) {
            String name = part.split(" ")[0];
            String answer = "";
            if (part.startsWith("~")) {
                Check.type(x, part.substring(1));
            } else if (part.startsWith("?")) {
                call(x, part.substring(1));
            } else if (METHODS.containsKey(name)) {
                answer = call(x, part);
            } else if (!part.isEmpty()) {
                Check.type(x, part);
                answer = call(x, "commands");
            }
            Check.same("whether " + part + " of " + before + " throws", false, answer.startsWith("throws"));
        }
        return x;
    }

    /** The answer of a call that is told in words, or the exact class of what it throws. */
    static String call(ChalkWarrants x, String words) {
        String[] parts = words.split(" ");
        Method method = METHODS.get(parts[0]);
        Class<?>[] types = method.getParameterTypes();
        Object[] arguments = new Object[types.length];
        for (int place = 0; place < types.length; place++) {
            arguments[place] = argument(types[place], parts[place + 1]);
        }
        try {
            return String.valueOf(method.invoke(x, arguments));
        } catch (InvocationTargetException e) {
            return "throws." + e.getCause().getClass().getSimpleName();
        } catch (IllegalAccessException e) {
            throw new IllegalStateException(e);
        }
    }

    private static Object argument(Class<?> type, String word) {
        if (type == boolean.class) {
            return Boolean.valueOf(word);
        }
        if (type == char.class) {
            return word.charAt(0);
        }
        switch (word) {
            case "MIN": return Integer.MIN_VALUE;
            case "MAX": return Integer.MAX_VALUE;
            default: return Integer.valueOf(word);
        }
    }
}
