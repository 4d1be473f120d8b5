import java.lang.reflect.Constructor;
import java.lang.reflect.Field;
import java.lang.reflect.Method;
import java.lang.reflect.Modifier;
import java.util.Set;
import java.util.TreeSet;

/** The face is the document's and no more, and the classes inside keep to LANGUAGE.md's rules 1 and 5. */
public final class FaceTest {
    private static final Set<String> METHODS = Set.of("type/1", "clear/0", "tells/0", "fills/3", "draws/2", "pours/3",
        "turnsOver/1", "undo/0", "cask/2", "slice/3", "under/2", "dip/2", "stick/3", "known/3", "shares/3", "all/1",
        "sees/2", "forget/0", "which/0", "ask/0", "keep/1", "back/1", "count/1");

    private static int wrong = 0;

    public static void main(String[] args) {
        methods();
        fields();
        constructors();
        insides();
        System.out.println("face: " + wrong + " wrong");
        if (wrong != 0) {
            System.exit(1);
        }
    }

    private static void hold(boolean so, String what) {
        if (!so) {
            wrong++;
            System.out.println("not so: " + what);
        }
    }

    private static void methods() {
        hold(Modifier.isPublic(CaskGauge.class.getModifiers()), "the class is public");
        hold(Modifier.isFinal(CaskGauge.class.getModifiers()), "the class is final");
        Set<String> open = new TreeSet<>();
        for (Method method : CaskGauge.class.getDeclaredMethods()) {
            String name = method.getName() + "/" + method.getParameterCount();
            if (Modifier.isPrivate(method.getModifiers())) {
                hold(METHODS.stream().noneMatch(face -> face.startsWith(method.getName() + "/")),
                    name + " is private and bears the name of a public one");
                continue;
            }
            open.add(name);
            hold(Modifier.isPublic(method.getModifiers()), name + " is public");
            hold(method.getReturnType() == int.class, name + " answers an int");
            for (Class<?> type : method.getParameterTypes()) {
                hold(type == int.class, name + " takes ints");
            }
            hold(method.getExceptionTypes().length == 0, name + " declares no exceptions");
        }
        hold(open.equals(new TreeSet<>(METHODS)), "the methods are the document's: " + open);
    }

    private static void fields() {
        Set<String> open = new TreeSet<>();
        for (Field field : CaskGauge.class.getDeclaredFields()) {
            if (!Modifier.isPrivate(field.getModifiers())) {
                open.add(field.getName());
            }
            if (Modifier.isStatic(field.getModifiers())) {
                hold(Modifier.isFinal(field.getModifiers()), field.getName() + " is final");
            }
        }
        hold(open.equals(new TreeSet<>(Set.of("BAD", "STATE", "FULL", "NONE"))), "the constants are the document's: " + open);
        hold(CaskGauge.BAD == -1 && CaskGauge.STATE == -2 && CaskGauge.FULL == -3 && CaskGauge.NONE == -9, "their values");
    }

    private static void constructors() {
        Constructor<?>[] all = CaskGauge.class.getDeclaredConstructors();
        hold(all.length == 1 && all[0].getParameterCount() == 0 && Modifier.isPublic(all[0].getModifiers()),
            "one public constructor without arguments");
    }

    private static void insides() {
        Class<?>[] inside = CaskGauge.class.getDeclaredClasses();
        hold(inside.length < 12, "fewer than twelve classes inside");
        for (Class<?> one : inside) {
            hold(Modifier.isStatic(one.getModifiers()), one + " is static");
            hold(!Modifier.isPublic(one.getModifiers()) && !Modifier.isProtected(one.getModifiers()), one + " is not open");
            for (Field field : one.getDeclaredFields()) {
                hold(!Modifier.isStatic(field.getModifiers()) || Modifier.isFinal(field.getModifiers()),
                    one + "'s " + field.getName() + " is final");
            }
        }
    }
}
