import java.lang.reflect.InvocationTargetException;
import java.lang.reflect.Method;
import java.lang.reflect.Modifier;
import java.util.ArrayList;
import java.util.Arrays;
import java.util.Comparator;
import java.util.List;

/** Runs of 512 calls each, always the same ones, on the class and on the model: every answer must be the same. */
public final class ModelTest {
    private static final int RUNS = 600;
    private static final int CALLS = 512;
    private static final int[] EDGES = {Integer.MIN_VALUE, -1, 0, 1, 9, 10, 11, 12, 99, 100, Integer.MAX_VALUE};
    private static final String[] CHANGES = {"child", "chalk", "chalk", "chalk", "hop", "hop", "hop", "warrant", "strike",
        "rain", "term", "give", "undo", "save", "restore"};
    private static final String SIGNS = "nchwsrtg0123456789@:;>* x";

    private final ChalkWarrants tested = new ChalkWarrants();
    private final Model model = new Model();
    private final Method[] methods;
    private final StringBuilder told = new StringBuilder();
    private long drawn;
    private int calls = 0;

    private ModelTest(long seed) {
        drawn = seed;
        methods = Arrays.stream(Model.class.getDeclaredMethods())
                .filter(method -> Modifier.isPublic(method.getModifiers()))
                .sorted(Comparator.comparing(Method::getName)).toArray(Method[]::new);
    }

    public static void main(String[] args) {
        for (int run = 0; run < RUNS; run++) {
            ModelTest test = new ModelTest(run);
            Check.same("run " + run, "", test.difference());
        }
        Check.end("ModelTest");
    }

    /** The first wrong answer with the changes ahead of it, or nothing. */
    private String difference() {
        while (calls < CALLS - 64) {
            int kind = draw(20);
            String wrong = kind < 11 ? call(find(CHANGES[draw(CHANGES.length)]))
                    : kind < 19 ? call(methods[draw(methods.length)])
                    : text();
            if (!wrong.isEmpty()) {
                return told + wrong;
            }
        }
        return "";
    }

    /** The next number below the bound of a row that is the same in every run of the tests. */
    private int draw(int bound) {
        drawn = drawn * 6364136223846793005L + 1442695040888963407L;
        return (int) ((drawn >>> 33) % bound);
    }

    private Method find(String name) {
        return Arrays.stream(methods).filter(method -> method.getName().equals(name)).findFirst().get();
    }

    private String text() {
        String text = draw(4) == 0 ? scrawl() : rightText();
        for (char sign : text.toCharArray()) {
            String wrong = compare(find("append"), sign);
            if (!wrong.isEmpty()) {
                return wrong;
            }
        }
        String wrong = compare(find("commands"));
        return wrong.isEmpty() ? compare(find("faultPosition")) : wrong;
    }

    private String scrawl() {
        StringBuilder text = new StringBuilder(rightText());
        for (int count = draw(3); count >= 0 && text.length() > 0; count--) {
            int place = draw(text.length());
            char sign = SIGNS.charAt(draw(SIGNS.length()));
            switch (draw(3)) {
                case 0: text.setCharAt(place, sign); break;
                case 1: text.insert(place, sign); break;
                default: text.deleteCharAt(place);
            }
        }
        return text.toString();
    }

    private String rightText() {
        List<String> commands = new ArrayList<>();
        for (int count = draw(5); count >= 0; count--) {
            commands.add(command());
        }
        return String.join(";", commands);
    }

    private String command() {
        int child = known();
        int number = draw(draw(3) == 0 ? 100 : 12);
        switch (draw(9)) {
            case 0: return "n" + number;
            case 1: return "w" + child;
            case 2: return "s" + child;
            case 3: return "r" + draw(10);
            case 4: return "t";
            case 5: return "g" + child + ">" + known() + "*" + number;
            case 6: return "h" + child + ":" + steps(12);
            default: return "c" + child + "@" + (number < 10 ? "0" : "") + number;
        }
    }

    /** Mostly a child that is there. */
    private int known() {
        int children = model.account(0);
        return children == 0 || draw(30) == 0 ? draw(7) : draw(children);
    }

    /** Mostly steps of a hop. */
    private String steps(int most) {
        StringBuilder steps = new StringBuilder();
        int square = -1;
        while (square < 11 && steps.length() < most) {
            int step = draw(4) == 0 ? 3 : 1 + draw(3);
            steps.append(step);
            square += step;
        }
        if (draw(15) == 0) {
            steps.append(draw(5));
        }
        if (draw(15) == 0) {
            steps.setLength(1 + draw(steps.length()));
        }
        return steps.toString();
    }

    private String call(Method method) {
        boolean isRare = method.getName().equals("restore") || method.getName().equals("rain");
        if (isRare && draw(4) != 0) {
            return "";
        }
        Class<?>[] types = method.getParameterTypes();
        Object[] arguments = new Object[types.length];
        for (int place = 0; place < types.length; place++) {
            arguments[place] = types[place] == boolean.class ? (Object) (draw(2) == 0)
                    : types[place] == char.class ? (Object) SIGNS.charAt(draw(SIGNS.length()))
                    : (Object) number(method.getName(), place);
        }
        return compare(method, arguments);
    }

    private int number(String name, int place) {
        if (draw(25) == 0) {
            return EDGES[draw(EDGES.length)];
        }
        boolean isSteps = place == 1 && (name.equals("hop") || name.equals("wouldTread"));
        if (isSteps) {
            return Integer.parseInt(steps(8));
        }
        boolean isChild = place == 0 && !name.equals("child") && !name.equals("rain");
        if (isChild || name.equals("give") && place == 1) {
            return name.equals("squareOf") || name.equals("character") ? draw(30) : known();
        }
        return draw(name.equals("child") ? 40 : 12);
    }

    private String compare(Method method, Object... arguments) {
        calls++;
        String due = answer(model, method, arguments);
        String got = answer(tested, method, arguments);
        String call = method.getName() + Arrays.toString(arguments);
        told.append(call).append('=').append(due).append(' ');
        return due.equals(got) ? "" : call + " answered " + got + ", due is " + due;
    }

    private static String answer(Object object, Method method, Object[] arguments) {
        try {
            Method own = object.getClass().getMethod(method.getName(), method.getParameterTypes());
            return String.valueOf(own.invoke(object, arguments));
        } catch (InvocationTargetException e) {
            return "throws." + e.getCause().getClass().getSimpleName();
        } catch (ReflectiveOperationException e) {
            throw new IllegalStateException(e);
        }
    }
}
