import java.lang.reflect.Constructor;
import java.lang.reflect.Field;
import java.lang.reflect.Method;
import java.lang.reflect.Modifier;
import java.util.Set;
import java.util.TreeSet;

/** The public face is the document's, to the letter, and nothing else can be seen. */
public final class FaceTest {
    private static final Due due = new Due("FaceTest");
    private static final Set<String> FACE = Set.of(
        "public boolean EditedScanner.arrow(int,int,int)",
        "public boolean EditedScanner.kind(int,int)",
        "public int EditedScanner.edit(int,int,long,int)",
        "public int EditedScanner.token(int,int)",
        "public int EditedScanner.tokenAt(int)",
        "public int EditedScanner.symbol(int)",
        "public int EditedScanner.count(int)",
        "public int EditedScanner.clear()");

    public static void main(String[] args) {
        Class<?> face = EditedScanner.class;
        due.is("public and final", face.getModifiers(), Modifier.PUBLIC | Modifier.FINAL);
        due.is("in no package", face.getPackageName().isEmpty(), true);
        due.is("above it Object alone", face.getSuperclass() == Object.class, true);
        due.is("interfaces", face.getInterfaces().length, 0);
        methodsAreThoseOfTheDocument(face);
        oneConstructor(face);
        for (Field field : face.getDeclaredFields()) {
            due.is("private field " + field, Modifier.isPrivate(field.getModifiers()), true);
            due.is("static state " + field, isState(field), false);
        }
        due.end();
    }

    private static void methodsAreThoseOfTheDocument(Class<?> face) {
        Set<String> seen = new TreeSet<>();
        Set<String> publicNames = new TreeSet<>();
        for (Method method : face.getDeclaredMethods()) {
            if (!Modifier.isPrivate(method.getModifiers())) {
                seen.add(method.toString());
                publicNames.add(method.getName());
            }
        }
        due.is("methods " + seen, seen.equals(FACE), true);
        for (Method method : face.getDeclaredMethods()) {
            boolean shares = Modifier.isPrivate(method.getModifiers())
                && publicNames.contains(method.getName());
            due.is("a private method of a public name: " + method, shares, false);
        }
    }

    private static void oneConstructor(Class<?> face) {
        Constructor<?>[] constructors = face.getDeclaredConstructors();
        due.is("constructors", constructors.length, 1);
        due.is("public constructor", constructors[0].getModifiers(), Modifier.PUBLIC);
        due.is("its parameters", constructors[0].getParameterCount(), 0);
    }

    private static boolean isState(Field field) {
        return Modifier.isStatic(field.getModifiers()) && !Modifier.isFinal(field.getModifiers());
    }
}
