import java.lang.reflect.Constructor;
import java.lang.reflect.Field;
import java.lang.reflect.Member;
import java.lang.reflect.Method;
import java.lang.reflect.Modifier;
import java.util.Arrays;
import java.util.Set;
import java.util.TreeSet;

/** The face of the class: what the document tells and no more. */
public final class FaceTest {
    private static final Set<String> FACE = Set.of(
        "public static final int MailAgent.SYNTAX", "public static final int MailAgent.SEQUENCE",
        "public static final int MailAgent.UNKNOWN", "public static final int MailAgent.FULL",
        "public MailAgent(int,int,int)",
        "public int MailAgent.alias(int,int)", "public int MailAgent.unalias(int)",
        "public int MailAgent.route(int,int,int)", "public int MailAgent.unroute(int)",
        "public int MailAgent.host(int,int)", "public int MailAgent.from(int)", "public int MailAgent.to(int)",
        "public int MailAgent.data(int)", "public int MailAgent.tick(int)", "public int MailAgent.sync()",
        "public int MailAgent.crash()", "public int MailAgent.drop(int)", "public int MailAgent.hurry(int)",
        "public int MailAgent.count(int)", "public int MailAgent.message(int)",
        "public int MailAgent.status(int,int)", "public int MailAgent.sender(int)", "public int MailAgent.due(int)",
        "public int MailAgent.received(int,int)");

    public static void main(String[] args) {
        Check.isTrue("the class is public and final",
            Modifier.isPublic(MailAgent.class.getModifiers()) && Modifier.isFinal(MailAgent.class.getModifiers()));
        faceIsAsTold();
        noPrivateMethodBearsAPublicName();
        staticFieldsAreFinal(MailAgent.class);
        for (Class<?> inside : MailAgent.class.getDeclaredClasses()) {
            Check.isTrue(inside + " is static", Modifier.isStatic(inside.getModifiers()));
            Check.isTrue(inside + " is not public or protected",
                !Modifier.isPublic(inside.getModifiers()) && !Modifier.isProtected(inside.getModifiers()));
            staticFieldsAreFinal(inside);
        }
        Check.end();
    }

    private static void faceIsAsTold() {
        Set<String> seen = new TreeSet<>();
        for (Field field : MailAgent.class.getDeclaredFields()) {
            addIfSeen(seen, field);
        }
        for (Constructor<?> constructor : MailAgent.class.getDeclaredConstructors()) {
            addIfSeen(seen, constructor);
        }
        for (Method method : MailAgent.class.getDeclaredMethods()) {
            addIfSeen(seen, method);
        }
        Check.isTrue("the face is " + new TreeSet<>(FACE) + ", seen is " + seen, seen.equals(FACE));
    }

    private static void addIfSeen(Set<String> seen, Member member) {
        if (!Modifier.isPrivate(member.getModifiers())) {
            seen.add(member.toString());
        }
    }

    private static void noPrivateMethodBearsAPublicName() {
        for (Method method : MailAgent.class.getDeclaredMethods()) {
            boolean isPublic = Modifier.isPublic(method.getModifiers());
            long sameName = Arrays.stream(MailAgent.class.getDeclaredMethods())
                .filter(other -> other.getName().equals(method.getName())).count();
            Check.isTrue("only one method is called " + method.getName(), !isPublic || sameName == 1);
        }
    }

    private static void staticFieldsAreFinal(Class<?> owner) {
        for (Field field : owner.getDeclaredFields()) {
            Check.isTrue(field + " is final or not static",
                !Modifier.isStatic(field.getModifiers()) || Modifier.isFinal(field.getModifiers()));
        }
    }
}
