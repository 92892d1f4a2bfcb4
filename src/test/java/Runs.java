import java.lang.reflect.InvocationTargetException;
import java.lang.reflect.Method;
import java.util.ArrayList;
import java.util.HashMap;
import java.util.List;
import java.util.Map;

/**
 * Plays runs of calls that are written as the document writes its examples: "closed(0) = 2; hold(0, true) = false;".
 * A call behind which "! IllegalStateException" stands must throw that, and must change nothing: a house that has
 * heard it and one that has not are asked the same long rows of calls. "typing hot;" types the letters of a word.
 */
final class Runs {
    static final String INDEX = " ! IndexOutOfBoundsException; ";
    static final String ARGUMENT = " ! IllegalArgumentException; ";
    static final String STATE = " ! IllegalStateException; ";
    static final String UNABLE = " ! UnsupportedOperationException; ";
    static final String NONE = " ! NoSuchElementException; ";
    private static final Map<String, Method> METHODS = new HashMap<>();
    private static final List<String> READS = reads();
    private static final List<String> USES = uses();
    private static final List<String> WORDS = List.of("addBlend()", "type('d')", "narrow(0)", "band(0, 0, false)",
            "band(0, 0, true)", "band(0, 1, false)", "band(0, 2, false)", "type('q')");
    private static int wrong = 0;
    private static int checked = 0;

    private Runs() {
    }

    static void play(String name, String... rows) {
        Spicebourse house = new Spicebourse();
        List<String> made = new ArrayList<>();
        for (String row : String.join(" ", rows).split(";")) {
            String text = row.trim();
            if (text.startsWith("typing ")) {
                for (char letter : text.substring(7).toCharArray()) {
                    make(house, "type('" + letter + "')", made);
                }
            } else if (text.contains("!")) {
                playRefused(name, house, text, made);
            } else if (!text.isEmpty()) {
                int sign = text.lastIndexOf('=');
                String call = text.substring(0, sign).trim();
                due(name + ": " + call, make(house, call, made), plain(text.substring(sign + 1).trim()));
            }
        }
    }

    /** The same row again and again, with its number in place of #. */
    static String times(int from, int to, String row) {
        StringBuilder all = new StringBuilder();
        for (int i = from; i <= to; i++) {
            all.append(row.replace("#", "" + i));
        }
        return all.toString();
    }

    static void due(String name, Object got, Object want) {
        checked++;
        if (!got.equals(want)) {
            wrong++;
            System.out.println(name + " answered " + got + ", due is " + want);
        }
    }

    static void end() {
        System.out.println(wrong == 0 ? checked + " answers are as due" : wrong + " answers are not as due");
        if (wrong != 0 || checked == 0) {
            System.exit(1);
        }
    }

    /** The exception's name, if the class threw it with "throw", and not the machine or the library. */
    static String thrown(Throwable e) {
        StackTraceElement[] trace = e.getStackTrace();
        boolean isOwn = trace.length > 0 && trace[0].getClassName().startsWith("Spicebourse");
        return isOwn ? e.getClass().getSimpleName() : e + ", thrown by itself";
    }

    private static String make(Spicebourse house, String call, List<String> made) {
        made.add(call);
        return answer(house, call);
    }

    private static void playRefused(String name, Spicebourse house, String text, List<String> made) {
        int sign = text.lastIndexOf('!');
        String call = text.substring(0, sign).trim();
        due(name + ": " + call, answer(house, call), text.substring(sign + 1).trim());
        List<String> heard = new ArrayList<>(made);
        heard.add(call);
        due(name + ": what is told behind " + call, told(heard, READS), told(made, READS));
        due(name + ": what can be done behind " + call, told(heard, USES), told(made, USES));
        due(name + ": the word behind " + call, told(heard, WORDS), told(made, WORDS));
    }

    /** What a fresh house that has heard some calls answers to others. */
    private static String told(List<String> heard, List<String> asked) {
        Spicebourse house = new Spicebourse();
        for (String call : heard) {
            answer(house, call);
        }
        StringBuilder all = new StringBuilder();
        for (String call : asked) {
            all.append(call).append(' ').append(answer(house, call)).append('\n');
        }
        return all.toString();
    }

    /** All that the calls tell that change nothing. */
    private static List<String> reads() {
        List<String> calls = new ArrayList<>(List.of("checksum()", "inDrum()", "week()", "shippedShare()",
                "meanOil()", "isSound()", "closed(12)", "jarLeft(30)", "batchLeft(20)", "band(6, 0, true)",
                "jarsOf(0, 10, 6)", "bound(0, 100)", "cheapest(3, 2000)"));
        add(calls, 12, "closed(#)", "lotNumber(#, 0)", "lotNumber(#, 1)", "lotNumber(#, 2)", "account(#, 'o')",
                "account(#, 't')", "account(#, 'p')", "isOdd(#)", "recall(#)", "gotOf(0, #)", "hasLot(0, #)");
        add(calls, 30, "jarLeft(#)", "jarNumber(#, 1)");
        add(calls, 20, "batchLeft(#)", "batchNumber(#, 0)", "isIn(#, 0)");
        add(calls, 6, "got(#)", "owes(#)", "band(#, 0, false)", "band(#, 0, true)", "band(#, 1, false)",
                "band(#, 2, false)", "cheapest(#, 10)", "jarsOf(0, 10, #)", "mixtureCost(#)", "mixturePart(0, #)");
        return calls;
    }

    /** Calls whose answers tell what else is kept: tests, holds, costs, portions of the drum, and a whole word. */
    private static List<String> uses() {
        List<String> calls = new ArrayList<>();
        add(calls, 4, "ship(#, 0, 3, 1)", "ship(#, 1, 3, 1)", "openJar(#, false)");
        add(calls, 12, "hold(#, false)");
        add(calls, 4, "ship(#, 0, 3, 1)", "ship(#, 1, 3, 1)", "openJar(#, true)", "fromBatch(#, 1)");
        add(calls, 8, "fromJar(#, 1)");
        calls.addAll(List.of("inDrum()", "mix()", "empty()", "addBlend()"));
        add(calls, 20, "test(#, 0)", "ship(#, 0, 0, 1)", "ship(#, 0, 0, 9)");
        add(calls, 20, "test(#, 5)", "ship(#, 5, 5, 1)");
        calls.addAll(List.of("checksum()", "narrow(0)", "band(0, 0, false)", "band(0, 0, true)", "band(0, 1, false)",
                "band(0, 2, false)", "narrow(0)", "addLot(0, 1, 2, 3, 10, 1, 1)", "addOffer(0, 10, 1, 1)"));
        add(calls, 6, "got(#)", "owes(#)", "throwBatch(#)", "throwJar(#)");
        calls.addAll(List.of("pass(1)", "pass(19)", "pass(20)", "checksum()", "isSound()"));
        return calls;
    }

    private static void add(List<String> calls, int count, String... rows) {
        for (String row : rows) {
            for (int i = 0; i < count; i++) {
                calls.add(row.replace("#", "" + i));
            }
        }
    }

    private static String plain(String want) {
        return want.contains(".") ? "" + Double.parseDouble(want) : want;
    }

    private static String answer(Spicebourse house, String call) {
        String inside = call.substring(call.indexOf('(') + 1, call.lastIndexOf(')')).trim();
        String[] texts = inside.isEmpty() ? new String[0] : inside.split("\\s*,\\s*");
        try {
            Method method = methodNamed(call.substring(0, call.indexOf('(')));
            Class<?>[] types = method.getParameterTypes();
            Object[] values = new Object[texts.length];
            for (int i = 0; i < texts.length; i++) {
                values[i] = value(types[i], texts[i]);
            }
            Object got = method.invoke(house, values);
            return got instanceof Float ? "" + ((Float) got).doubleValue() : "" + got;
        } catch (InvocationTargetException e) {
            return thrown(e.getCause());
        } catch (IllegalAccessException e) {
            return "no access";
        }
    }

    private static Method methodNamed(String name) {
        for (Method method : METHODS.isEmpty() ? Spicebourse.class.getMethods() : new Method[0]) {
            if (method.getDeclaringClass() == Spicebourse.class) {
                METHODS.put(method.getName(), method);
            }
        }
        if (!METHODS.containsKey(name)) {
            throw new IllegalStateException("no method " + name);
        }
        return METHODS.get(name);
    }

    private static Object value(Class<?> type, String text) {
        if (type == boolean.class) {
            return Boolean.valueOf(text);
        }
        return type == char.class ? (Object) text.charAt(1) : (Object) Integer.valueOf(text);
    }
}
