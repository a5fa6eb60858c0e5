import java.lang.reflect.Constructor;
import java.lang.reflect.Field;
import java.lang.reflect.Method;
import java.lang.reflect.Modifier;
import java.util.Arrays;
import java.util.Set;
import java.util.TreeSet;

/** The class bears the document's face and no other member that can be seen. */
public final class FaceTests {
    private static final String INDEX = "java.lang.IndexOutOfBoundsException";
    private static final String ARGUMENT = "java.lang.IllegalArgumentException";
    private static final String STATE = "java.lang.IllegalStateException";
    private static final String[] FACE = {
        "int music(int,int,int) " + INDEX + " " + ARGUMENT,
        "int person(int,int,int) " + ARGUMENT + " " + STATE,
        "boolean paper(int,boolean) " + INDEX,
        "int throat(int,int) " + INDEX + " " + ARGUMENT,
        "int noise(int,int,int) " + INDEX + " " + ARGUMENT + " " + STATE,
        "int unwrap(int,int,int,int) " + INDEX + " " + ARGUMENT + " " + STATE,
        "int cough(int) " + ARGUMENT + " " + STATE,
        "int evening()",
        "int knock()",
        "int ofSecond(int,int) " + INDEX + " " + ARGUMENT,
        "int ofPerson(int,int) " + INDEX + " " + ARGUMENT,
        "int minds(int,int) " + INDEX,
        "int refund(int) " + INDEX,
        "int hall(int) " + ARGUMENT,
        "int would(int,int,int) " + INDEX + " " + ARGUMENT,
        "int cost(int,int,int,int) " + INDEX + " " + ARGUMENT,
        "java.lang.String plan(int,int,int,int) " + INDEX + " " + ARGUMENT,
        "int loudest(int,int,int) " + INDEX + " " + ARGUMENT,
        "int coughing(int,int) " + ARGUMENT,
        "int suspects(int,int,int) " + INDEX + " " + ARGUMENT,
        "boolean isSound()",
        "long digest()",
    };

    private FaceTests() {
    }

    public static void main(String[] args) {
        Checks checks = new Checks("FaceTests");
        Set<String> want = new TreeSet<>(Arrays.asList(FACE));
        Set<String> names = new TreeSet<>();
        Set<String> got = new TreeSet<>();
        for (Method method : Quietpaper.class.getDeclaredMethods()) {
            if (Modifier.isPublic(method.getModifiers())) {
                got.add(told(method));
                names.add(method.getName());
                checks.holds("not static: " + method, !Modifier.isStatic(method.getModifiers()));
            }
        }
        checks.due("the public methods", got, want);
        hiddenMembers(checks, Quietpaper.class, names, true);
        for (Class<?> inside : Quietpaper.class.getDeclaredClasses()) {
            checks.holds("static: " + inside, Modifier.isStatic(inside.getModifiers()));
            checks.holds("not public: " + inside,
                    !Modifier.isPublic(inside.getModifiers()) && !Modifier.isProtected(inside.getModifiers()));
            hiddenMembers(checks, inside, names, false);
        }
        checks.due("public and final", Quietpaper.class.getModifiers(), Modifier.PUBLIC | Modifier.FINAL);
        Constructor<?>[] constructors = Quietpaper.class.getDeclaredConstructors();
        checks.due("one constructor", constructors.length, 1);
        checks.due("the constructor", constructors[0].toGenericString(), "public Quietpaper()");
        checks.end();
    }

    private static void hiddenMembers(Checks checks, Class<?> kind, Set<String> face, boolean isFace) {
        for (Method method : kind.getDeclaredMethods()) {
            boolean isPrivate = Modifier.isPrivate(method.getModifiers());
            checks.holds("private or of the face: " + method,
                    isPrivate ? !face.contains(method.getName()) : isFace && face.contains(method.getName()));
        }
        int fields = 0;
        for (Field field : kind.getDeclaredFields()) {
            checks.holds("private: " + field, Modifier.isPrivate(field.getModifiers()));
            if (Modifier.isStatic(field.getModifiers())) {
                checks.holds("final: " + field, Modifier.isFinal(field.getModifiers()));
            } else {
                fields++;
            }
        }
        checks.holds("at most twenty fields: " + kind, fields <= 20);
    }

    private static String told(Method method) {
        StringBuilder text = new StringBuilder();
        text.append(method.getReturnType().getName()).append(' ').append(method.getName()).append('(');
        String between = "";
        for (Class<?> parameter : method.getParameterTypes()) {
            text.append(between).append(parameter.getName());
            between = ",";
        }
        text.append(')');
        for (Class<?> thrown : method.getExceptionTypes()) {
            text.append(' ').append(thrown.getName());
        }
        return text.toString();
    }
}
