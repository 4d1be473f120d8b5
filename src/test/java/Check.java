import java.lang.reflect.InvocationTargetException;
import java.lang.reflect.Method;
import java.util.Arrays;

/** What the tests share: answers compared and counted under the sentence that they stand for, calls by name, texts. */
final class Check {
    static final int BAD = -1, STATE = -2, FULL = -3, NONE = -9;
    static final int LEAST = Integer.MIN_VALUE, MOST = Integer.MAX_VALUE;

    private static final Method[] FACE = CaskGauge.class.getDeclaredMethods();
    private static String sentence = "";
    private static int checks = 0;
    private static int wrong = 0;
    private static int checksAhead = 0;
    private static int sentences = 0;

    private Check() {
    }

    /** What is compared from here on stands for these words of the document. */
    static void sentence(String words) {
        noSentenceWithoutChecks();
        sentence = words;
        checksAhead = checks;
        sentences++;
    }

    private static void noSentenceWithoutChecks() {
        if (sentences > 0 && checks == checksAhead) {
            wrong++;
            System.out.println("[" + sentence + "] has no test");
        }
    }

    static void due(String what, int got, int want) {
        checks++;
        if (got != want && wrong++ < 40) {
            System.out.println("[" + sentence + "] " + what + " answered " + got + ", due is " + want);
        }
    }

    static void hold(String what, boolean so) {
        checks++;
        if (!so && wrong++ < 40) {
            System.out.println("[" + sentence + "] not so: " + what);
        }
    }

    /** A call of the face by its name, so that what is printed is what was called. */
    static void due(CaskGauge x, int want, String name, int... args) {
        due(said(name, args), call(x, name, args), want);
    }

    static int call(CaskGauge x, String name, int... args) {
        try {
            Object[] boxed = Arrays.stream(args).boxed().toArray();
            return (Integer) methodOf(name).invoke(x, boxed);
        } catch (InvocationTargetException e) {
            throw new IllegalStateException(said(name, args) + " threw " + e.getCause(), e);
        } catch (IllegalAccessException e) {
            throw new IllegalStateException(e);
        }
    }

    static String said(String name, int... args) {
        return name + Arrays.toString(args).replace('[', '(').replace(']', ')');
    }

    private static Method methodOf(String name) {
        for (Method method : FACE) {
            if (method.getName().equals(name)) {
                return method;
            }
        }
        throw new IllegalArgumentException("no such call: " + name);
    }

    static void type(CaskGauge x, String text) {
        for (int i = 0; i < text.length(); i++) {
            x.type(text.charAt(i));
        }
    }

    static int tell(CaskGauge x, String text) {
        x.clear();
        type(x, text);
        return x.tells();
    }

    /** A new object with the casks of a text, which must be without a fault. */
    static CaskGauge told(String text) {
        CaskGauge x = new CaskGauge();
        hold("'" + text + "' has no fault", tell(x, text) >= 0);
        return x;
    }

    static void end(String test) {
        noSentenceWithoutChecks();
        System.out.println(test + ": " + sentences + " sentences, " + checks + " answers, " + wrong + " wrong");
        if (wrong != 0) {
            System.exit(1);
        }
    }
}
