import java.lang.reflect.InvocationTargetException;
import java.lang.reflect.Method;
import java.util.ArrayList;
import java.util.List;

/**
 * Runs of calls on new objects, written as the document writes its examples: "turn(0, 3) -> 24;
 * append "r01" -> 3; back() -> throws UnsupportedOperationException", a call a line or behind a
 * semicolon and a blank. Besides the calls of the face there is: written -> "r03c21" for the whole
 * line, many N: CALL -> RESULT for the result of the last of N such calls, and reading "r01" -> 1 or
 * learning 4 "r01" -> 1 for a text that is appended and read, or learnt on the shelf 4; the result
 * of a text that is no sequence is wrong at N, its error position.
 */
final class Calls {
    private static final int MOST_CALLS = 512;

    private static int wrong = 0;
    private static int runs = 0;

    private final String name;
    private final TwistyBarrels barrels = new TwistyBarrels();
    private int calls = 0;

    private Calls(String name) {
        this.name = name;
    }

    static void run(String name, String text) {
        Calls run = new Calls(name);
        runs++;
        for (String call : text.split("\n|; ")) {
            String trimmed = call.strip();
            if (!trimmed.isEmpty()) {
                run.check(trimmed);
            }
        }
        if (run.calls > MOST_CALLS) {
            tellWrong(name + ": has " + run.calls + " calls, beyond which answers are free");
        }
    }

    static void tellWrong(String text) {
        wrong++;
        System.out.println(text);
    }

    /** Ends the test; a test that ran nothing is wrong as well. */
    static void end() {
        System.out.println(runs + " runs, " + wrong + " answers that are not due");
        if (wrong > 0 || runs == 0) {
            System.exit(1);
        }
    }

    private void check(String call) {
        int arrow = call.lastIndexOf(" -> ");
        if (arrow < 0) {
            tellWrong(name + ": has no answer: " + call);
            return;
        }
        String due = call.substring(arrow + 4).strip();
        String got = answer(call.substring(0, arrow).strip());
        if (!got.equals(due)) {
            tellWrong(name + ": " + call + ", but the answer was " + got);
        }
    }

    private String answer(String call) {
        if (call.equals("written")) {
            return "\"" + written() + "\"";
        }
        if (call.startsWith("many ")) {
            int colon = call.indexOf(": ");
            String last = "";
            for (int i = Integer.parseInt(call.substring(5, colon)); i > 0; i--) {
                last = answer(call.substring(colon + 2));
            }
            return last;
        }
        int quote = call.indexOf(" \"");
        if (quote >= 0) {
            return answerToText(call.substring(0, quote), call.substring(quote + 2, call.length() - 1));
        }
        int open = call.indexOf('(');
        return invoke(call.substring(0, open), arguments(call.substring(open + 1, call.length() - 1)));
    }

    private String answerToText(String call, String text) {
        String last = "";
        for (char sign : text.toCharArray()) {
            last = invoke("append", List.of(Integer.toString(sign)));
        }
        if (call.equals("append")) {
            return last;
        }
        boolean isRead = call.equals("reading");
        List<String> shelf = isRead ? List.of() : List.of(call.substring("learning ".length()));
        String answer = invoke(isRead ? "read" : "learn", shelf);
        boolean isWrong = answer.equals("throws IllegalArgumentException");
        return isWrong ? "wrong at " + invoke("errorPosition", List.of()) : answer;
    }

    private String written() {
        StringBuilder signs = new StringBuilder();
        String sign = invoke("character", List.of("0"));
        while (!sign.startsWith("throws") && signs.length() < MOST_CALLS) {
            signs.append(sign.charAt(1));
            sign = invoke("character", List.of(Integer.toString(signs.length())));
        }
        return signs.toString();
    }

    private static List<String> arguments(String text) {
        List<String> arguments = new ArrayList<>();
        for (String argument : text.split(",")) {
            if (!argument.isBlank()) {
                arguments.add(argument.strip());
            }
        }
        return arguments;
    }

    private String invoke(String method, List<String> arguments) {
        calls++;
        for (Method each : TwistyBarrels.class.getMethods()) {
            if (each.getName().equals(method) && each.getParameterCount() == arguments.size()) {
                return invoke(each, arguments);
            }
        }
        return "there is no such method: " + method;
    }

    private String invoke(Method method, List<String> texts) {
        Object[] values = new Object[texts.size()];
        for (int i = 0; i < values.length; i++) {
            values[i] = value(method.getParameterTypes()[i], texts.get(i));
        }
        try {
            return told(method.invoke(barrels, values));
        } catch (InvocationTargetException e) {
            return "throws " + e.getCause().getClass().getSimpleName();
        } catch (IllegalAccessException e) {
            return "cannot be called: " + method;
        }
    }

    private static Object value(Class<?> type, String text) {
        if (type == boolean.class) {
            return Boolean.valueOf(text);
        }
        if (type == char.class) {
            return (char) Integer.parseInt(text);
        }
        return Integer.valueOf(text);
    }

    private static String told(Object answer) {
        return answer instanceof Character ? "'" + answer + "'" : answer.toString();
    }
}
