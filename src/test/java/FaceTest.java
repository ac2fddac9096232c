import java.lang.reflect.Constructor;
import java.lang.reflect.Field;
import java.lang.reflect.Method;
import java.lang.reflect.Modifier;
import java.util.Set;
import java.util.TreeSet;

/** The class has the document's face and no other member that is not private. */
public final class FaceTest {
    private static final String IAE = " throws IllegalArgumentException";

    public static void main(String[] args) throws IllegalAccessException {
        Check.due("public final", Modifier.toString(SessionGate.class.getModifiers()), "public final");
        Check.due("constants", constants().toString(), new TreeSet<>(Set.of(
                "NONE -1", "FORM -2", "KEY -3", "SEAL -4", "GONE -5",
                "OLD -6", "IDLE -7", "WRONG -8", "BAD -9", "FULL -10")).toString());
        Check.due("constructors", constructors().toString(), "[public SessionGate()]");
        Check.due("methods", methods().toString(), new TreeSet<>(Set.of(
                "void seed(long)",
                "long pass(long)" + IAE,
                "void limits(long,long,long)" + IAE,
                "int change(int,int,int,int)",
                "void user(int,int,int)" + IAE,
                "int login(int,int,int)" + IAE,
                "int request(boolean)",
                "int logout()",
                "int revoke(int)" + IAE,
                "int type(int,int,int,int,int)" + IAE + ",IllegalStateException",
                "int erase(int)" + IAE,
                "int put(int,int,int)" + IAE + ",IndexOutOfBoundsException",
                "int sign(int,int)" + IAE,
                "long session(int,int)" + IAE,
                "int count(int)" + IAE,
                "int octet(int)" + IAE)).toString());
        Check.end("FaceTest");
    }

    private static Set<String> constants() throws IllegalAccessException {
        Set<String> found = new TreeSet<>();
        for (Field field : SessionGate.class.getDeclaredFields()) {
            int modifiers = field.getModifiers();
            if (Modifier.toString(modifiers).equals("public static final") && field.getType() == int.class) {
                found.add(field.getName() + " " + field.getInt(null));
            } else if (!Modifier.isPrivate(modifiers)) {
                found.add("not private: " + field);
            } else if (Modifier.isStatic(modifiers) && !Modifier.isFinal(modifiers)) {
                found.add("not final: " + field);
            }
        }
        return found;
    }

    private static Set<String> constructors() {
        Set<String> found = new TreeSet<>();
        for (Constructor<?> constructor : SessionGate.class.getDeclaredConstructors()) {
            found.add(constructor.toString());
        }
        return found;
    }

    private static Set<String> methods() {
        Set<String> publicNames = new TreeSet<>();
        for (Method method : SessionGate.class.getDeclaredMethods()) {
            if (Modifier.isPublic(method.getModifiers())) {
                publicNames.add(method.getName());
            }
        }
        Set<String> found = new TreeSet<>();
        for (Method method : SessionGate.class.getDeclaredMethods()) {
            String line = method.toString().replace("java.lang.", "").replace("SessionGate.", "");
            if (Modifier.toString(method.getModifiers()).equals("public")) {
                found.add(line.substring("public ".length()));
            } else if (!Modifier.isPrivate(method.getModifiers()) || publicNames.contains(method.getName())) {
                found.add("outside the face: " + line);
            }
        }
        return found;
    }
}
