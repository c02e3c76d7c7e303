import java.lang.reflect.InvocationTargetException;
import java.lang.reflect.Method;
import java.util.ArrayList;
import java.util.Arrays;
import java.util.Comparator;
import java.util.List;
import java.util.Random;

/** Runs of calls by seeds, each call made on the class and on the model, whose answers must be alike. */
public final class ModelTest {
    private static final int RUNS = 600;
    private static final int CALLS = 512;
    private static final int MOST_TOLD = 5;

    private final Random random;
    private final TwistyBarrels barrels = new TwistyBarrels();
    private final Model model = new Model();
    private final List<Method> face = new ArrayList<>();
    private final List<String> calls = new ArrayList<>();

    private ModelTest(int seed) {
        random = new Random(seed);
        for (Method method : TwistyBarrels.class.getDeclaredMethods()) {
            if (java.lang.reflect.Modifier.isPublic(method.getModifiers())) {
                face.add(method);
            }
        }
        // getDeclaredMethods has no order of its own, and a seed shall always tell the same run.
        face.sort(Comparator.comparing(Method::getName));
    }

    public static void main(String[] arguments) {
        int wrong = 0;
        for (int seed = 0; seed < RUNS && wrong < MOST_TOLD; seed++) {
            String difference = new ModelTest(seed).difference();
            if (difference != null) {
                wrong++;
                System.out.println("seed " + seed + ": " + difference);
            }
        }
        System.out.println(RUNS + " runs of " + CALLS + " calls against the model, " + wrong + " wrong");
        if (wrong > 0) {
            System.exit(1);
        }
    }

    private String difference() {
        String difference = null;
        while (difference == null && calls.size() < CALLS) {
            int kind = random.nextInt(30);
            if (kind < 3) {
                difference = differenceOfText();
            } else {
                difference = difference(anyMethod());
            }
        }
        return difference;
    }

    private String differenceOfText() {
        String difference = null;
        for (char sign : text().toCharArray()) {
            difference = difference == null ? difference(method("append"), new Object[] {sign}) : difference;
        }
        boolean isHeld = random.nextInt(12) == 0;
        if (difference != null || isHeld) {
            return difference;
        }
        return difference(method(random.nextInt(3) == 0 ? "read" : "learn"));
    }

    /** What takes everything back or away comes seldom, so that a run gets anywhere. */
    private Method anyMethod() {
        Method method = face.get(random.nextInt(face.size()));
        boolean isSeldom = List.of("restore", "forget", "undo", "append", "read", "learn").contains(method.getName());
        boolean isLeftOut = isSeldom && random.nextInt(4) > 0;
        return isLeftOut ? method(List.of("shift", "join", "cycleLine").get(random.nextInt(3))) : method;
    }

    private String difference(Method method) {
        return difference(method, values(method));
    }

    private String difference(Method method, Object[] values) {
        calls.add(method.getName() + Arrays.toString(values));
        String got = answer(barrels, method, values);
        String due;
        try {
            due = answer(model, Model.class.getDeclaredMethod(method.getName(), method.getParameterTypes()), values);
        } catch (NoSuchMethodException e) {
            due = "the model has no such method";
        }
        if (got.equals(due)) {
            return null;
        }
        return String.join(" ", calls) + " answered " + got + ", due is " + due;
    }

    private static String answer(Object object, Method method, Object[] values) {
        try {
            return String.valueOf(method.invoke(object, values));
        } catch (InvocationTargetException e) {
            return "throws " + e.getCause().getClass().getName();
        } catch (IllegalAccessException e) {
            return "cannot be called";
        }
    }

    private Method method(String name) {
        for (Method method : face) {
            if (method.getName().equals(name)) {
                return method;
            }
        }
        throw new IllegalArgumentException(name);
    }

    private Object[] values(Method method) {
        Class<?>[] types = method.getParameterTypes();
        Object[] values = new Object[types.length];
        for (int i = 0; i < types.length; i++) {
            if (types[i] == boolean.class) {
                values[i] = random.nextBoolean();
            } else if (types[i] == char.class) {
                values[i] = sign();
            } else {
                values[i] = number(method.getName(), i);
            }
        }
        return values;
    }

    private char sign() {
        boolean isAny = random.nextInt(40) == 0;
        return isAny ? (char) random.nextInt(65536) : "rcs()[],'0123456789".charAt(random.nextInt(19));
    }

    private int number(String name, int parameter) {
        int odd = random.nextInt(60);
        if (odd == 0) {
            return new int[] {Integer.MIN_VALUE, Integer.MAX_VALUE, -100, 100, 10000, 61}[random.nextInt(6)];
        }
        int size = size(name, parameter);
        if (name.equals("use") && parameter == 1) {
            return random.nextInt(2 * size) - size;
        }
        return odd == 1 ? -1 : odd == 2 ? size : random.nextInt(size);
    }

    private static int size(String name, int parameter) {
        String both = name + parameter;
        switch (both) {
            case "turn0": case "isDone0": case "line0": case "shift1": case "shelfOf1":
                return 4;
            case "turn1": case "shift0": case "account0":
                return 8;
            case "use1":
                return 100;
            case "scramble0":
                return 10000;
            case "scramble1":
                return 61;
            case "logOf0":
                return 41;
            case "logOf1":
                return 3;
            case "paint1":
                return 6;
            case "character0":
                return 30;
            case "at0": case "where0": case "paint0": case "colour0": case "fewest0": case "fewest1":
            case "goesTo1": case "cycle1":
                return 32;
            default:
                return 5;
        }
    }

    /** Mostly a sequence, sometimes with one sign changed, taken away, cut off behind or put in. */
    private String text() {
        String text = sequence(random.nextInt(random.nextInt(6) + 1));
        if (text.length() > (random.nextInt(4) == 0 ? 62 : 20)) {
            return text();
        }
        int place = random.nextInt(text.length());
        switch (random.nextInt(12)) {
            case 0:
                return text.substring(0, place) + sign() + text.substring(place + 1);
            case 1:
                return text.substring(0, place) + text.substring(place + 1);
            case 2:
                return text.substring(0, place);
            case 3:
                return text.substring(0, place) + sign() + text.substring(place);
            default:
                return text;
        }
    }

    private String sequence(int depth) {
        StringBuilder text = new StringBuilder();
        int items = 1 + random.nextInt(3);
        for (int i = 0; i < items && text.length() < 60; i++) {
            text.append(item(depth));
            text.append(random.nextInt(4) == 0 ? "'" : "");
        }
        return text.toString();
    }

    private String shelfItem() {
        int shelf = random.nextInt(5);
        return model.isFilled(shelf) || random.nextInt(8) == 0 ? "s" + shelf : "r2" + (shelf + 1);
    }

    private String item(int depth) {
        int kind = random.nextInt(depth > 0 ? 7 : 3);
        switch (kind) {
            case 0:
                return "r" + random.nextInt(4) + (1 + random.nextInt(7));
            case 1:
                return "c" + random.nextInt(8) + (1 + random.nextInt(3));
            case 2:
                return shelfItem();
            case 3: case 4:
                return "(" + sequence(depth - 1) + ")" + (2 + random.nextInt(8));
            default:
                return "[" + sequence(depth - 1) + "," + sequence(depth - 1) + "]";
        }
    }
}
