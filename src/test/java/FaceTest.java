import java.lang.reflect.Constructor;
import java.lang.reflect.Field;
import java.lang.reflect.Method;
import java.lang.reflect.Modifier;
import java.util.Arrays;
import java.util.TreeSet;

/** The public face: what the document lists, and nothing else that is not private. */
public final class FaceTest {
    private static final String[] METHODS = {
        "int login(int)", "void power(int)", "void name(int,long)", "int open(int)", "int make(int)",
        "int close(int)", "int erase(int)", "int rename(int,int)", "int guard(int,boolean)",
        "int search(int,int)", "int read(int)", "int write(int)", "int at(int,int,boolean)", "int size(int)",
        "int has(int,int)", "int set(int,int)", "long buffer(int)", "int disk(int)", "void spoil(int,int)",
        "int told(int)"};

    public static void main(String[] args) {
        Checks checks = new Checks();
        constants(checks);
        members(checks);
        checks.holds("the class is final", Modifier.isFinal(RecordSystem.class.getModifiers()));
        checks.finish();
    }

    private static void constants(Checks checks) {
        checks.due("NONE", RecordSystem.NONE, -1);
        checks.due("FULL", RecordSystem.FULL, -2);
        checks.due("READ_ONLY", RecordSystem.READ_ONLY, -3);
        checks.due("DISK_FULL", RecordSystem.DISK_FULL, -4);
        checks.due("POWERLESS", RecordSystem.POWERLESS, -9);
    }

    private static void members(Checks checks) {
        TreeSet<String> methods = new TreeSet<>();
        TreeSet<String> hidden = new TreeSet<>();
        for (Method m : RecordSystem.class.getDeclaredMethods()) {
            boolean isPrivate = Modifier.isPrivate(m.getModifiers());
            (isPrivate ? hidden : methods).add(isPrivate ? m.getName() : signature(m));
        }
        checks.same("methods", methods.toString(), new TreeSet<>(Arrays.asList(METHODS)).toString());
        for (String method : METHODS) {
            String name = method.substring(method.indexOf(' ') + 1, method.indexOf('('));
            checks.holds("no private method is called " + name, !hidden.contains(name));
        }
        TreeSet<String> fields = new TreeSet<>();
        for (Field f : RecordSystem.class.getDeclaredFields()) {
            if (!Modifier.isPrivate(f.getModifiers())) {
                fields.add(f.getName());
            }
        }
        checks.same("fields", fields.toString(), "[DISK_FULL, FULL, NONE, POWERLESS, READ_ONLY]");
        Constructor<?>[] constructors = RecordSystem.class.getDeclaredConstructors();
        checks.due("constructors", constructors.length, 1);
        checks.due("its parameters", constructors[0].getParameterCount(), 0);
        for (Class<?> inside : RecordSystem.class.getDeclaredClasses()) {
            boolean isSeen = Modifier.isPublic(inside.getModifiers()) || Modifier.isProtected(inside.getModifiers());
            boolean isStatic = Modifier.isStatic(inside.getModifiers());
            checks.holds(inside.getName() + " is static and not seen", isStatic && !isSeen);
        }
    }

    private static String signature(Method m) {
        StringBuilder text = new StringBuilder();
        text.append(m.getReturnType().getName()).append(' ').append(m.getName()).append('(');
        for (Class<?> type : m.getParameterTypes()) {
            text.append(text.charAt(text.length() - 1) == '(' ? "" : ",").append(type.getName());
        }
        return text.append(')').toString();
    }
}
