import java.lang.reflect.Constructor;
import java.lang.reflect.Field;
import java.lang.reflect.Method;
import java.lang.reflect.Modifier;
import java.util.Arrays;
import java.util.TreeSet;

/** The public face is that of the document, and nothing else can be seen (rule 1 of LANGUAGE.md). */
public final class FaceTest {
    private static final String ARGUMENT = " IllegalArgumentException";
    private static final String STATE = " IllegalStateException";
    private static final String INDEX = " IndexOutOfBoundsException";
    private static final String[] METHODS = {
        "void shape(int,int,int)" + ARGUMENT, "int frame(int)" + ARGUMENT + STATE,
        "int set(int,int,int,int,int)" + INDEX + ARGUMENT, "int get(int,int,int,int)" + INDEX,
        "int time(int)" + INDEX, "int about(int)" + ARGUMENT, "int write(int,int)" + ARGUMENT + STATE,
        "int read()", "int size()", "int byteAt(int)" + INDEX, "void poke(int,int)" + INDEX + ARGUMENT,
        "int type(long,int)" + ARGUMENT + STATE, "void cut(int)" + ARGUMENT, "int check(int,int)" + INDEX + ARGUMENT,
    };

    public static void main(String[] args) {
        Class<?> face = FrameVault.class;
        Expect.yes("public final", Modifier.isPublic(face.getModifiers()) && Modifier.isFinal(face.getModifiers()));
        TreeSet<String> seen = new TreeSet<>();
        TreeSet<String> names = new TreeSet<>();
        for (Method method : face.getDeclaredMethods()) {
            if (!Modifier.isPrivate(method.getModifiers())) {
                seen.add(signatureOf(method));
                names.add(method.getName());
                Expect.yes(method + " is public", Modifier.isPublic(method.getModifiers()));
            }
        }
        Expect.same("the methods", seen.toString(), new TreeSet<>(Arrays.asList(METHODS)).toString());
        Constructor<?>[] constructors = face.getDeclaredConstructors();
        Expect.same("constructors", constructors.length, 1);
        Expect.yes("the constructor is public", Modifier.isPublic(constructors[0].getModifiers()));
        lookAtFields(face);
        lookForNames(face, names);
        for (Class<?> inner : face.getDeclaredClasses()) {
            Expect.yes(inner + " is static", Modifier.isStatic(inner.getModifiers()));
            Expect.yes(inner + " is hidden", !Modifier.isPublic(inner.getModifiers())
                    && !Modifier.isProtected(inner.getModifiers()));
            lookForNames(inner, names);
        }
        Expect.same("NONE", FrameVault.NONE, -1);
        Expect.end();
    }

    private static String signatureOf(Method method) {
        StringBuilder text = new StringBuilder(method.getReturnType() + " " + method.getName() + "(");
        for (Class<?> kind : method.getParameterTypes()) {
            text.append(text.charAt(text.length() - 1) == '(' ? "" : ",").append(kind);
        }
        text.append(')');
        for (Class<?> kind : method.getExceptionTypes()) {
            text.append(' ').append(kind.getSimpleName());
        }
        return text.toString();
    }

    private static void lookAtFields(Class<?> face) {
        for (Field field : face.getDeclaredFields()) {
            boolean isNone = field.getName().equals("NONE");
            Expect.yes(field + " is hidden, but for NONE", Modifier.isPrivate(field.getModifiers()) != isNone);
            Expect.yes(field + " is final if static",
                    !Modifier.isStatic(field.getModifiers()) || Modifier.isFinal(field.getModifiers()));
        }
    }

    private static void lookForNames(Class<?> kind, TreeSet<String> names) {
        for (Method method : kind.getDeclaredMethods()) {
            boolean ofTheFace = kind == FrameVault.class && !Modifier.isPrivate(method.getModifiers());
            Expect.yes(method + " has a name of its own", ofTheFace || !names.contains(method.getName()));
        }
    }
}
