import java.lang.reflect.InvocationTargetException;
import java.lang.reflect.Method;
import java.util.ArrayList;
import java.util.Arrays;
import java.util.List;

/**
 * A run of calls on a new object, told as text: steps with a ';' between them, each a call of the face with what it
 * answers behind a '=', or what it throws, without its 'Exception', behind a '!'. '3x step' does a step three times.
 * 'type 2 1 / 11' types piles from below, 'deal 2 1 / 11' wipes, types and adds them, 'go 1 9' types moves, 'attempt 0 1
 * 9 9' types moves before it tries them, 'players 3' adds players, 'fails 0 1 2' lends the entry 1 to the player 0 and
 * lets an empty try fail, twice; 'key 0', 'label 0', 'cards 0', 'list' and 'reasons' tell these whole.
 */
final class Script {
    private static final int MOST_CALLS = 512;

    private final Checks checks;
    private final String name;
    private Patiencearchive x = new Patiencearchive();
    private boolean withRefused = true;
    private int refused;
    private int calls;

    Script(Checks checks, String name) {
        this.checks = checks;
        this.name = name;
    }

    /** Does the run; if calls were refused, a second run without these must leave the same behind. */
    void play(String run) {
        steps(run);
        checks.is(name + " [" + run + "] calls", true, () -> calls <= MOST_CALLS);
        if (refused == 0) {
            return;
        }
        Patiencearchive first = x;
        x = new Patiencearchive();
        withRefused = false;
        steps(run);
        Patiencearchive second = x;
        checks.is(name + " [" + run + "] refused calls change nothing", Scene.all(second), () -> Scene.all(first));
        checks.is(name + " [" + run + "] refused calls leave what is typed", Scene.used(second), () -> Scene.used(first));
    }

    private void steps(String run) {
        for (String step : run.split(";")) {
            String[] words = step.trim().split("x ", 2);
            boolean isMany = words.length == 2 && words[0].matches("\\d+");
            for (int i = isMany ? Integer.parseInt(words[0]) : 1; i > 0; i--) {
                step(run, (isMany ? words[1] : step).trim());
            }
        }
    }

    private void step(String run, String step) {
        String[] callAndDue = step.split(" ?[=!] ?", 2);
        String[] words = callAndDue[0].trim().split(" +");
        boolean isRefused = step.contains("!");
        if (isRefused && !withRefused) {
            return;
        }
        refused += isRefused ? 1 : 0;
        Object got = Checks.answer(() -> answer(words));
        String what = name + " [" + run + "] " + step;
        if (isRefused) {
            checks.is(what, "throws " + callAndDue[1].trim() + "Exception", () -> got);
        } else if (callAndDue.length == 2) {
            checks.is(what, due(callAndDue[1].trim(), got), () -> String.valueOf(got));
        } else {
            checks.is(what + " is not refused", false, () -> String.valueOf(got).startsWith("throws "));
        }
    }

    private static String due(String text, Object got) {
        String[] parts = text.split("/");
        if (got instanceof Float) {
            return String.valueOf(Float.parseFloat(parts[0]) / (parts.length == 2 ? Float.parseFloat(parts[1]) : 1f));
        }
        if (got instanceof Double) {
            return String.valueOf(Double.parseDouble(parts[0]) / (parts.length == 2 ? Double.parseDouble(parts[1]) : 1.0));
        }
        return text;
    }

    private Object answer(String[] words) {
        List<String> rest = Arrays.asList(words).subList(1, words.length);
        switch (words[0]) {
            case "type":
                type(rest);
                return "";
            case "deal":
                call("wipe", List.of());
                type(rest);
                return call("add", List.of());
            case "go":
                go(rest);
                return "";
            case "attempt":
                go(rest.subList(2, rest.size()));
                return call("attempt", rest.subList(0, 2));
            case "players":
                for (int i = number(rest.get(0)); i > 0; i--) {
                    call("player", List.of());
                }
                return "";
            case "fails":
                for (int i = number(rest.get(2)); i > 0; i--) {
                    call("lend", rest.subList(0, 2));
                    call("attempt", rest.subList(0, 2));
                }
                return "";
            default:
                return told(words[0], rest);
        }
    }

    private Object told(String what, List<String> rest) {
        switch (what) {
            case "key":
                return Scene.key(x, number(rest.get(0)));
            case "label":
                return rest.size() == 1 ? Scene.label(x, number(rest.get(0))) : call(what, rest);
            case "cards":
                return Scene.cards(x, number(rest.get(0)));
            case "list":
                return Scene.list(x);
            case "reasons":
                return Scene.why(x);
            default:
                return call(what, rest);
        }
    }

    private void type(List<String> words) {
        for (String word : words) {
            if (word.equals("/")) {
                call("pile", List.of());
            } else {
                call("card", List.of(word));
            }
        }
    }

    private void go(List<String> moves) {
        for (String move : moves) {
            call("move", List.of("" + number(move) / 10, "" + number(move) % 10));
        }
    }

    private Object call(String method, List<String> words) {
        calls++;
        for (Method each : Patiencearchive.class.getDeclaredMethods()) {
            if (each.getName().equals(method) && each.getParameterCount() == words.size()) {
                return invoke(each, words);
            }
        }
        throw new IllegalArgumentException("no call " + method + " " + words);
    }

    private Object invoke(Method method, List<String> words) {
        List<Object> arguments = new ArrayList<>();
        for (int i = 0; i < words.size(); i++) {
            if (method.getParameterTypes()[i] == char.class) {
                arguments.add(sign(words.get(i)));
            } else {
                arguments.add(number(words.get(i)));
            }
        }
        try {
            return method.invoke(x, arguments.toArray());
        } catch (InvocationTargetException e) {
            if (e.getCause() instanceof RuntimeException) {
                throw (RuntimeException) e.getCause();
            }
            throw new IllegalStateException(e.getCause());
        } catch (IllegalAccessException e) {
            throw new IllegalStateException(e);
        }
    }

    private static char sign(String word) {
        return word.startsWith("#") ? (char) Integer.parseInt(word.substring(1)) : word.charAt(0);
    }

    private static int number(String word) {
        switch (word) {
            case "min":
                return Integer.MIN_VALUE;
            case "max":
                return Integer.MAX_VALUE;
            default:
                return Integer.parseInt(word);
        }
    }
}
