import java.lang.reflect.Constructor;
import java.lang.reflect.Field;
import java.lang.reflect.Member;
import java.lang.reflect.Method;
import java.lang.reflect.Modifier;
import java.util.Arrays;
import java.util.Set;
import java.util.TreeSet;

/** The face of the class: what the document tells and no more. */
public final class FaceTest {
    private static final Set<String> FACE = Set.of("SYNTAX", "SEQUENCE", "UNKNOWN", "FULL",
        "MailAgent(3)", "alias(2)", "unalias(1)", "route(3)", "unroute(1)", "host(2)", "from(1)", "to(1)", "data(1)",
        "tick(1)", "sync(0)", "crash(0)", "drop(1)", "hurry(1)", "count(1)", "message(1)", "status(2)", "sender(1)",
        "due(1)", "received(2)");

    public static void main(String[] args) {
        Check.isTrue("the class is public and final",
            Modifier.isPublic(MailAgent.class.getModifiers()) && Modifier.isFinal(MailAgent.class.getModifiers()));
        faceIsAsTold();
        noPrivateMethodBearsAPublicName();
        staticFieldsAreFinal(MailAgent.class);
        for (Class<?> inside : MailAgent.class.getDeclaredClasses()) {
            Check.isTrue(inside + " is static", Modifier.isStatic(inside.getModifiers()));
            Check.isTrue(inside + " is not public or protected",
                !Modifier.isPublic(inside.getModifiers()) && !Modifier.isProtected(inside.getModifiers()));
            staticFieldsAreFinal(inside);
        }
        Check.end();
    }

    private static void faceIsAsTold() {
        Set<String> seen = new TreeSet<>();
        for (Field field : MailAgent.class.getDeclaredFields()) {
            addIfSeen(seen, field, field.getName());
            Check.isTrue(field + " is private or a constant of int",
                Modifier.isPrivate(field.getModifiers()) || field.getType() == int.class
                    && Modifier.isStatic(field.getModifiers()));
        }
        for (Constructor<?> constructor : MailAgent.class.getDeclaredConstructors()) {
            addIfSeen(seen, constructor, "MailAgent(" + constructor.getParameterCount() + ")");
        }
        for (Method method : MailAgent.class.getDeclaredMethods()) {
            addIfSeen(seen, method, method.getName() + "(" + method.getParameterCount() + ")");
        }
        Check.isTrue("the face is " + new TreeSet<>(FACE) + ", seen is " + seen, seen.equals(FACE));
    }

    private static void addIfSeen(Set<String> seen, Member member, String name) {
        if (!Modifier.isPrivate(member.getModifiers())) {
            seen.add(name);
            Check.isTrue(name + " is public", Modifier.isPublic(member.getModifiers()));
        }
    }

    private static void noPrivateMethodBearsAPublicName() {
        for (Method method : MailAgent.class.getDeclaredMethods()) {
            boolean isPublic = Modifier.isPublic(method.getModifiers());
            long sameName = Arrays.stream(MailAgent.class.getDeclaredMethods())
                .filter(other -> other.getName().equals(method.getName())).count();
            Check.isTrue("only one method is called " + method.getName(), !isPublic || sameName == 1);
        }
    }

    private static void staticFieldsAreFinal(Class<?> owner) {
        for (Field field : owner.getDeclaredFields()) {
            Check.isTrue(field + " is final or not static",
                !Modifier.isStatic(field.getModifiers()) || Modifier.isFinal(field.getModifiers()));
        }
    }
}
