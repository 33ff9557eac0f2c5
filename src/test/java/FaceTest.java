import java.lang.reflect.Constructor;
import java.lang.reflect.Field;
import java.lang.reflect.Method;
import java.lang.reflect.Modifier;
import java.util.Set;
import java.util.TreeSet;

/** The public face is the document's, and nothing else can be seen from outside. */
public final class FaceTest {
    private static final String[] FACE = {
        "int officer()", "int ship(int,int)", "int signs(int,int,int)", "boolean trust(int,boolean)",
        "boolean set(int,int)", "int read(int,int,int,int,int)", "int feed(int,int,int,int,int)",
        "int scale(int,int)", "int habits(int,int)", "int fault()", "int reading(int,int)",
        "int reads(int,int,int,int)", "int blow(int,int,int,int,int)", "int run(int,int,int,int,int)",
        "int column(int,int,int,int,int)", "int turn(int,int,int,int,int)", "int tight()", "int lean(int,int)",
        "int liked(int,int,int)", "int wind(int,int)", "int grew(int)", "int late(int)", "int copied(int,int)",
        "int find(int)", "int wished(int,int)", "int eight(int,int,int,int)", "int alike(int)",
        "int storm(int,int,int,int)", "int way(int,int)", "int image()", "int back(int)", "int count(int)",
    };

    public static void main(String[] args) {
        Check check = new Check("FaceTest");
        Set<String> due = new TreeSet<>();
        for (String one : FACE) {
            due.add(one);
        }
        Set<String> names = new TreeSet<>();
        for (Method method : WindWords.class.getDeclaredMethods()) {
            int bits = method.getModifiers();
            if (Modifier.isPublic(bits)) {
                names.add(method.getName());
                check.same("face of " + signature(method), due.remove(signature(method)) && !Modifier.isStatic(bits), true);
            } else {
                check.same("hidden " + method.getName(), Modifier.isPrivate(bits), true);
            }
        }
        check.same("methods missing: " + due, due.size(), 0);
        for (Class<?> inner : WindWords.class.getDeclaredClasses()) {
            int bits = inner.getModifiers();
            check.same("static class " + inner.getName(), Modifier.isStatic(bits), true);
            check.same("hidden class " + inner.getName(), Modifier.isPublic(bits) || Modifier.isProtected(bits), false);
            privateNames(check, inner, names);
        }
        privateNames(check, WindWords.class, names);
        fieldsAndConstructors(check);
        check.end();
    }

    private static void privateNames(Check check, Class<?> its, Set<String> names) {
        for (Method method : its.getDeclaredMethods()) {
            if (Modifier.isPrivate(method.getModifiers())) {
                check.same("private " + method.getName() + " named as a public one", names.contains(method.getName()), false);
            }
        }
    }

    private static void fieldsAndConstructors(Check check) {
        int open = 0;
        for (Field field : WindWords.class.getDeclaredFields()) {
            int bits = field.getModifiers();
            if (Modifier.isPublic(bits)) {
                open++;
                check.same("constant " + field.getName(),
                        field.getName().equals("NONE") && Modifier.isStatic(bits) && Modifier.isFinal(bits), true);
            } else {
                check.same("hidden field " + field.getName(), Modifier.isPrivate(bits), true);
            }
        }
        check.same("public fields", open, 1);
        check.same("NONE", WindWords.NONE, -1);
        Constructor<?>[] constructors = WindWords.class.getDeclaredConstructors();
        check.same("constructors", constructors.length, 1);
        check.same("constructor's face", Modifier.isPublic(constructors[0].getModifiers())
                && constructors[0].getParameterCount() == 0, true);
        int bits = WindWords.class.getModifiers();
        check.same("public final class", Modifier.isPublic(bits) && Modifier.isFinal(bits), true);
    }

    private static String signature(Method method) {
        StringBuilder text = new StringBuilder(method.getReturnType().getName());
        text.append(' ').append(method.getName()).append('(');
        Class<?>[] types = method.getParameterTypes();
        for (int k = 0; k < types.length; k++) {
            text.append(k == 0 ? "" : ",").append(types[k].getName());
        }
        return text.append(')').toString();
    }
}
