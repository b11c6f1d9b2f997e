import java.lang.reflect.Constructor;
import java.lang.reflect.Field;
import java.lang.reflect.Method;
import java.lang.reflect.Modifier;
import java.util.Set;
import java.util.TreeSet;

/** The class has the document's face, and no other member that can be seen. */
public final class FaceTest {
    private static final Set<String> FACE = new TreeSet<>(Set.of(
        "boolean type(char)", "int publish(int,int,boolean)", "boolean withdraw(int)", "int get(int,int,int)",
        "int put(int,int)", "int delete(int)", "boolean deliver(int)", "boolean lose(int)", "boolean copy(int)",
        "int tick()", "boolean power(int,boolean)", "int answer(int,int)", "int flights()", "int flight(int,int)",
        "int entries()", "int entry(int,int)", "int owner(int)", "int waiting(int)", "int version(int)"));

    public static void main(String[] args) {
        Check c = new Check("FaceTest");
        c.due("public final", Modifier.isPublic(FrontCache.class.getModifiers())
            && Modifier.isFinal(FrontCache.class.getModifiers()), true);
        methods(c);
        constructors(c);
        fields(c);
        c.end();
    }

    private static void methods(Check c) {
        Set<String> seen = new TreeSet<>();
        Set<String> names = new TreeSet<>();
        for (String call : FACE) {
            names.add(call.substring(call.indexOf(' ') + 1, call.indexOf('(')));
        }
        for (Method method : FrontCache.class.getDeclaredMethods()) {
            if (Modifier.isPrivate(method.getModifiers())) {
                c.due("a public name for private " + method, names.contains(method.getName()), false);
            } else {
                seen.add(method.getReturnType() + " " + method.getName() + parameters(method.getParameterTypes()));
                c.due("public and of the object: " + method, method.getModifiers() == Modifier.PUBLIC, true);
            }
        }
        c.due("the methods are " + seen, seen.equals(FACE), true);
    }

    private static String parameters(Class<?>[] types) {
        StringBuilder text = new StringBuilder("(");
        for (int i = 0; i < types.length; i++) {
            text.append(i == 0 ? "" : ",").append(types[i]);
        }
        return text.append(")").toString();
    }

    private static void constructors(Check c) {
        Constructor<?>[] all = FrontCache.class.getDeclaredConstructors();
        c.due("constructors", all.length, 1);
        c.due("its parameters", parameters(all[0].getParameterTypes()).equals("(int)"), true);
        c.due("it is public", Modifier.isPublic(all[0].getModifiers()), true);
    }

    private static void fields(Check c) {
        for (Field field : FrontCache.class.getDeclaredFields()) {
            c.due("private: " + field, Modifier.isPrivate(field.getModifiers()), true);
        }
    }
}
