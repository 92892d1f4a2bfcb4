import java.lang.reflect.InvocationTargetException;
import java.lang.reflect.Method;

/**
 * Plays runs of calls that are written as the document writes its examples: "closed(0) = 2; hold(0, true) = false;".
 * A call behind which "! IllegalStateException" stands must throw that, and must change nothing that can be seen.
 * "typing hot;" types the letters of a word.
 */
final class Runs {
    private static int wrong = 0;
    private static int checked = 0;

    private Runs() {
    }

    static void play(String name, String... rows) {
        Spicebourse house = new Spicebourse();
        for (String row : String.join(" ", rows).split(";")) {
            String text = row.trim();
            if (text.startsWith("typing ")) {
                for (char letter : text.substring(7).toCharArray()) {
                    house.type(letter);
                }
            } else if (!text.isEmpty()) {
                playCall(name, house, text);
            }
        }
    }

    static void due(String name, Object got, Object want) {
        checked++;
        if (!got.equals(want)) {
            wrong++;
            System.out.println(name + " answered " + got + ", due is " + want);
        }
    }

    static void end() {
        System.out.println(wrong == 0 ? checked + " answers are as due" : wrong + " answers are not as due");
        if (wrong != 0 || checked == 0) {
            System.exit(1);
        }
    }

    private static void playCall(String name, Spicebourse house, String text) {
        boolean isThrown = text.contains("!");
        String[] sides = text.split(isThrown ? "!" : "=");
        String call = sides[0].trim();
        String want = sides[1].trim();
        String before = isThrown ? seen(house) : "";
        due(name + ": " + call, answer(house, call), plain(want));
        if (isThrown) {
            due(name + ": the state behind " + call, seen(house), before);
        }
    }

    private static String plain(String want) {
        return want.endsWith("Exception") ? want : want.contains(".") ? "" + Double.parseDouble(want) : want;
    }

    private static String answer(Spicebourse house, String call) {
        String methodName = call.substring(0, call.indexOf('('));
        String inside = call.substring(call.indexOf('(') + 1, call.lastIndexOf(')')).trim();
        String[] texts = inside.isEmpty() ? new String[0] : inside.split("\\s*,\\s*");
        try {
            Method method = methodNamed(methodName);
            Class<?>[] types = method.getParameterTypes();
            Object[] values = new Object[texts.length];
            for (int i = 0; i < texts.length; i++) {
                values[i] = value(types[i], texts[i]);
            }
            Object got = method.invoke(house, values);
            return got instanceof Float ? "" + ((Float) got).doubleValue() : "" + got;
        } catch (InvocationTargetException e) {
            return thrown(e.getCause());
        } catch (IllegalAccessException e) {
            return "no access";
        }
    }

    /** The exception's name, if the class threw it with "throw", and not the machine or the library. */
    static String thrown(Throwable e) {
        StackTraceElement[] trace = e.getStackTrace();
        boolean isOwn = trace.length > 0 && trace[0].getClassName().startsWith("Spicebourse");
        return isOwn ? e.getClass().getSimpleName() : e + ", thrown by itself";
    }

    private static Method methodNamed(String name) {
        for (Method method : Spicebourse.class.getMethods()) {
            if (method.getName().equals(name) && method.getDeclaringClass() == Spicebourse.class) {
                return method;
            }
        }
        throw new IllegalStateException("no method " + name);
    }

    private static Object value(Class<?> type, String text) {
        if (type == boolean.class) {
            return Boolean.valueOf(text);
        }
        return type == char.class ? (Object) text.charAt(1) : (Object) Integer.valueOf(text);
    }

    /** All that the calls tell that change nothing. */
    private static String seen(Spicebourse house) {
        StringBuilder all = new StringBuilder();
        all.append(house.checksum()).append(' ').append(house.inDrum()).append(' ').append(house.week());
        String[] calls = {"closed(%d)", "lotNumber(%d, 0)", "lotNumber(%d, 1)", "lotNumber(%d, 2)", "jarLeft(%d)",
            "jarNumber(%d, 1)", "batchLeft(%d)", "batchNumber(%d, 0)", "isIn(%d, 0)", "got(%d)", "owes(%d)",
            "gotOf(%d, 0)", "recall(%d)", "band(%d, 0, true)", "band(%d, 1, false)", "band(%d, 2, false)",
            "account(%d, 'b')", "account(%d, 'c')", "account(%d, 'o')", "account(%d, 't')", "account(%d, 'p')",
            "isOdd(%d)", "mixtureCost(%d)", "jarsOf(0, 10, %d)", "cheapest(%d, 100)", "bound(%d, 100)",
            "hasLot(%d, 0)"};
        for (int i = 0; i < 13; i++) {
            for (String call : calls) {
                all.append(' ').append(answer(house, String.format(call, i)));
            }
        }
        return all.toString();
    }
}
