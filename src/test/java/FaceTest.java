import java.lang.reflect.Constructor;
import java.lang.reflect.Field;
import java.lang.reflect.Method;
import java.lang.reflect.Modifier;
import java.util.Set;
import java.util.TreeSet;

/** The public face is the document's, with nothing more that can be seen from outside. */
public final class FaceTest {
    private static final Set<String> METHODS = Set.of(
            "public void KeyedDigest.init()",
            "public boolean KeyedDigest.setKeyByte(int,int)",
            "public boolean KeyedDigest.start(int,int)",
            "public boolean KeyedDigest.update(int)",
            "public boolean KeyedDigest.updates(int,int,int,int,int)",
            "public boolean KeyedDigest.fill(int,int)",
            "public boolean KeyedDigest.finish()",
            "public int KeyedDigest.out(int)",
            "public int KeyedDigest.length()",
            "public int KeyedDigest.word(int)");

    public static void main(String[] args) {
        Checks.due("the class", Modifier.toString(KeyedDigest.class.getModifiers()),
                "public final");
        Checks.due("NONE", KeyedDigest.NONE, -1);
        methods();
        fields();
        constructors();
        Checks.end();
    }

    private static void methods() {
        Set<String> seen = new TreeSet<>();
        Set<String> publicNames = new TreeSet<>();
        Set<String> privateNames = new TreeSet<>();
        for (Method method : KeyedDigest.class.getDeclaredMethods()) {
            if (Modifier.isPrivate(method.getModifiers())) {
                privateNames.add(method.getName());
            } else {
                seen.add(method.toString());
                publicNames.add(method.getName());
            }
        }
        Checks.due("the methods", seen.toString(), new TreeSet<>(METHODS).toString());
        privateNames.retainAll(publicNames);
        Checks.due("private methods of a public name", privateNames.toString(), "[]");
    }

    private static void fields() {
        Set<String> seen = new TreeSet<>();
        for (Field field : KeyedDigest.class.getDeclaredFields()) {
            if (!Modifier.isPrivate(field.getModifiers())) {
                seen.add(field.toString());
            }
        }
        Checks.due("the constants", seen.toString(),
                "[public static final int KeyedDigest.NONE]");
    }

    private static void constructors() {
        Set<String> seen = new TreeSet<>();
        for (Constructor<?> constructor : KeyedDigest.class.getDeclaredConstructors()) {
            seen.add(constructor.toString());
        }
        Checks.due("the constructors", seen.toString(), "[public KeyedDigest()]");
    }
}
