import java.lang.reflect.Member;
import java.lang.reflect.Method;
import java.lang.reflect.Modifier;
import java.util.ArrayList;
import java.util.Arrays;
import java.util.List;

/** The public face is the document's one, and nothing else can be seen from outside. */
public final class FaceTest {
    private static final String INDEX = "IndexOutOfBoundsException";
    private static final String STATE = "IllegalStateException";
    private static final String RANGE = "IllegalArgumentException";
    private static final String MEANING = "UnsupportedOperationException";

    private static final String[] FACE = {
        line("int good 3", STATE, RANGE),
        line("void element 4", INDEX, RANGE),
        line("void limit 2", INDEX, RANGE),
        line("int arrive 2", INDEX, RANGE, MEANING),
        line("int heat 2", STATE, RANGE),
        line("void span 4", INDEX, RANGE),
        line("void most 2", INDEX, RANGE),
        line("int plan 2", INDEX, RANGE),
        line("int planned 1", INDEX, STATE),
        line("int amount 2", INDEX, STATE),
        line("long worst 4", INDEX, STATE, MEANING),
        line("long bound 1", INDEX, MEANING),
        line("int clash 1", INDEX),
        line("int take 1", INDEX, STATE, MEANING),
        line("int stock 1", INDEX),
    };

    public static void main(String[] args) {
        Class<?> type = ChargePlans.class;
        Check.isTrue("public", Modifier.isPublic(type.getModifiers()));
        Check.isTrue("final", Modifier.isFinal(type.getModifiers()));
        Check.equal("constructors", 1, type.getDeclaredConstructors().length);
        Check.isTrue("public constructor", Modifier.isPublic(type.getDeclaredConstructors()[0].getModifiers()));
        Check.equal("parameters of the constructor", 0, type.getDeclaredConstructors()[0].getParameterCount());
        List<String> left = new ArrayList<>(Arrays.asList(FACE));
        for (Method method : type.getDeclaredMethods()) {
            if (Modifier.isPublic(method.getModifiers())) {
                Check.isTrue("in the document: " + line(method), left.remove(line(method)));
            }
        }
        Check.isTrue("nothing is missing of " + left, left.isEmpty());
        restIsPrivate(type.getDeclaredMethods());
        restIsPrivate(type.getDeclaredFields());
        classesInsideAreHidden(type.getDeclaredClasses());
        namesOfTheFaceStandOnce(type.getDeclaredMethods());
        Check.end();
    }

    private static void classesInsideAreHidden(Class<?>[] classes) {
        for (Class<?> inside : classes) {
            int modifiers = inside.getModifiers();
            Check.isTrue("static: " + inside, Modifier.isStatic(modifiers));
            Check.isTrue("hidden: " + inside, !Modifier.isPublic(modifiers) && !Modifier.isProtected(modifiers));
        }
    }

    private static void namesOfTheFaceStandOnce(Method[] methods) {
        for (Method method : methods) {
            long bearers = Arrays.stream(methods).filter(other -> other.getName().equals(method.getName())).count();
            Check.isTrue("one method bears the name of " + method,
                bearers == 1 || !Modifier.isPublic(method.getModifiers()));
        }
    }

    private static void restIsPrivate(Member[] members) {
        for (Member member : members) {
            int modifiers = member.getModifiers();
            boolean ofTheFace = member instanceof Method && Modifier.isPublic(modifiers);
            Check.isTrue("private: " + member, ofTheFace || Modifier.isPrivate(modifiers));
        }
    }

    private static String line(Method method) {
        List<String> exceptions = new ArrayList<>();
        for (Class<?> exception : method.getExceptionTypes()) {
            exceptions.add(exception.getSimpleName());
        }
        for (Class<?> parameter : method.getParameterTypes()) {
            Check.isTrue("int parameters of " + method, parameter == int.class);
        }
        String head = method.getReturnType() + " " + method.getName() + " " + method.getParameterCount();
        return line(head, exceptions.toArray(new String[0]));
    }

    private static String line(String head, String... exceptions) {
        return head + " " + String.join(" ", exceptions);
    }
}
