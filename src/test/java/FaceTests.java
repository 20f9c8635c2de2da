import java.lang.reflect.Constructor;
import java.lang.reflect.Field;
import java.lang.reflect.Method;
import java.lang.reflect.Modifier;
import java.util.Set;
import java.util.TreeSet;

/** The public face, just so. */
final class FaceTests {
    private static final String[] METHODS = {
        "int wind(int,int,int)", "int kite(int,int,int,int)", "int spool(int)", "int tails(int,int)",
        "int tellAll()", "int hire(int,int,int,int)", "int back(int,int)", "int found(int)",
        "int pass(int)", "int set(int,int)", "int type(char)", "int clearText()", "int fault()",
        "int undo()", "int keep()", "int restore()", "int kiteOf(int,int)", "int spoolOf(int,int)",
        "int tailsOf(int,int)", "int hireOf(int,int)", "int ended(int,int)", "int windOf(int)",
        "int count(int)", "double perHour()", "int why(int,int,int,int)", "int next(int,int)",
        "int longest(int,int)", "int snapsIn(int)", "int flyable(int)", "int ifPassed(int,int)",
        "int dearest(int)"};

    private final Checks c;

    FaceTests(Checks checks) {
        c = checks;
    }

    void run() {
        c.test("face: the class and its constructor", this::theClass);
        c.test("face: the methods", this::methods);
        c.test("face: the constants", this::constants);
        c.test("face: no private method bears a public name", this::privateNames);
    }

    private void theClass() {
        int modifiers = KiteHire.class.getModifiers();
        c.due("public final", Modifier.isPublic(modifiers) && Modifier.isFinal(modifiers) ? 1 : 0, 1);
        c.due("supertype", KiteHire.class.getSuperclass().getName(), "java.lang.Object");
        Constructor<?>[] all = KiteHire.class.getDeclaredConstructors();
        c.due("constructors", all.length, 1);
        c.due("its parameters", all[0].getParameterCount(), 0);
        c.due("public constructor", Modifier.isPublic(all[0].getModifiers()) ? 1 : 0, 1);
    }

    private void methods() {
        Set<String> got = new TreeSet<>();
        for (Method method : KiteHire.class.getDeclaredMethods()) {
            if (!Modifier.isPrivate(method.getModifiers())) {
                got.add(signature(method));
                c.due(method + " is public", Modifier.isPublic(method.getModifiers()) ? 1 : 0, 1);
                c.due(method + " is static", Modifier.isStatic(method.getModifiers()) ? 1 : 0, 0);
            }
        }
        c.due("methods", got.toString(), new TreeSet<>(Set.of(METHODS)).toString());
    }

    private static String signature(Method method) {
        StringBuilder text = new StringBuilder(method.getReturnType().getName());
        text.append(' ').append(method.getName()).append('(');
        String comma = "";
        for (Class<?> type : method.getParameterTypes()) {
            text.append(comma).append(type.getName());
            comma = ",";
        }
        return text.append(')').toString();
    }

    private void constants() {
        Set<String> got = new TreeSet<>();
        for (Field field : KiteHire.class.getDeclaredFields()) {
            if (!Modifier.isPrivate(field.getModifiers())) {
                got.add(Modifier.toString(field.getModifiers()) + " " + field.getType() + " "
                        + field.getName());
            }
            if (Modifier.isStatic(field.getModifiers())) {
                c.due(field + " is final", Modifier.isFinal(field.getModifiers()) ? 1 : 0, 1);
            }
        }
        c.due("constants", got.toString(), "[public static final int BAD_VALUE, "
                + "public static final int FULL, public static final int NONE, "
                + "public static final int UNKNOWN]");
        c.due("UNKNOWN", KiteHire.UNKNOWN, -1);
        c.due("BAD_VALUE", KiteHire.BAD_VALUE, -2);
        c.due("FULL", KiteHire.FULL, -3);
        c.due("NONE", KiteHire.NONE, -5);
    }

    private void privateNames() {
        Set<String> publicNames = new TreeSet<>();
        for (String method : METHODS) {
            publicNames.add(method.substring(method.indexOf(' ') + 1, method.indexOf('(')));
        }
        privateNames(KiteHire.class, publicNames);
        for (Class<?> inside : KiteHire.class.getDeclaredClasses()) {
            privateNames(inside, publicNames);
            int modifiers = inside.getModifiers();
            c.due(inside + " is private and static",
                    Modifier.isPrivate(modifiers) && Modifier.isStatic(modifiers) ? 1 : 0, 1);
        }
    }

    private void privateNames(Class<?> owner, Set<String> publicNames) {
        for (Method method : owner.getDeclaredMethods()) {
            boolean face = owner == KiteHire.class && Modifier.isPublic(method.getModifiers());
            c.due(method + " bears a public name",
                    !face && publicNames.contains(method.getName()) ? 1 : 0, 0);
        }
    }
}
