import java.lang.reflect.Array;
import java.lang.reflect.Constructor;
import java.lang.reflect.Field;
import java.lang.reflect.Member;
import java.lang.reflect.Method;
import java.lang.reflect.Modifier;
import java.util.Set;
import java.util.TreeSet;

/** The public face of the document and no more (rule 1), and the room that an object takes. */
public final class FaceTests {
    private static final String[] FACE = {
        "int enter(int)", "long call(boolean)", "boolean leave(int)", "boolean has(int,int)", "int size(int)",
        "int clear(int)", "int join(int,boolean)", "long serve(boolean,boolean)", "boolean drop(int,boolean)",
        "long ring(int,boolean)", "int sieve(int,int)", "int roll(int)", "int insert(int,int)",
        "long change(int,int,boolean)", "long chain(int)", "int find(int,boolean)", "boolean unlink(int)",
        "int point(int)", "long pass(boolean)", "int touch(int,int)", "int finger()", "int empty()", "int hand()",
        "int REFUSED", "int FULL", "QueueHall()"
    };
    // The room of a run holds 7.3 million, and the 512 calls of one may all make a new object.
    private static final long ROOM = 7_300_000L;
    private static final int CALLS = 512;

    private static int passed = 0;
    private static int wrong = 0;

    private static void due(String what, Object got, Object want) {
        if (got.equals(want)) {
            passed++;
            return;
        }
        wrong++;
        System.out.println(what + " is " + got + ", due is " + want);
    }

    private static String parameters(Class<?>[] types) {
        StringBuilder text = new StringBuilder("(");
        for (Class<?> type : types) {
            text.append(text.length() == 1 ? "" : ",").append(type.getSimpleName());
        }
        return text.append(')').toString();
    }

    private static boolean isPrivate(Member member) {
        return Modifier.isPrivate(member.getModifiers());
    }

    private static Set<String> visibleMembers() {
        Set<String> seen = new TreeSet<>();
        for (Method method : QueueHall.class.getDeclaredMethods()) {
            if (!isPrivate(method)) {
                String type = method.getReturnType().getSimpleName();
                seen.add(type + " " + method.getName() + parameters(method.getParameterTypes()));
                due(method + " is public and not static", method.getModifiers(), Modifier.PUBLIC);
            }
        }
        for (Field field : QueueHall.class.getDeclaredFields()) {
            if (!isPrivate(field)) {
                seen.add(field.getType().getSimpleName() + " " + field.getName());
                due(field + " is public static final", field.getModifiers(),
                        Modifier.PUBLIC | Modifier.STATIC | Modifier.FINAL);
            }
        }
        for (Constructor<?> constructor : QueueHall.class.getDeclaredConstructors()) {
            if (!isPrivate(constructor)) {
                seen.add(constructor.getName() + parameters(constructor.getParameterTypes()));
                due(constructor + " is public", constructor.getModifiers(), Modifier.PUBLIC);
            }
        }
        return seen;
    }

    private static void noPrivateNameIsPublic(Class<?> type, Set<String> publicNames) {
        for (Method method : type.getDeclaredMethods()) {
            if (isPrivate(method) || type != QueueHall.class) {
                due("the name of " + method + " in the face", publicNames.contains(method.getName()), false);
            }
        }
    }

    private static void names() {
        Set<String> publicNames = new TreeSet<>();
        for (Method method : QueueHall.class.getDeclaredMethods()) {
            if (!isPrivate(method)) {
                publicNames.add(method.getName());
            }
        }
        noPrivateNameIsPublic(QueueHall.class, publicNames);
        for (Class<?> inside : QueueHall.class.getDeclaredClasses()) {
            noPrivateNameIsPublic(inside, publicNames);
            int modifiers = inside.getModifiers();
            due(inside + " static", Modifier.isStatic(modifiers), true);
            due(inside + " public or protected", Modifier.isPublic(modifiers) || Modifier.isProtected(modifiers), false);
        }
    }

    private static void staticFieldsAreFinal(Class<?> type) {
        for (Field field : type.getDeclaredFields()) {
            if (Modifier.isStatic(field.getModifiers())) {
                due(field + " final", Modifier.isFinal(field.getModifiers()), true);
            }
        }
    }

    private static long room(Object object) throws IllegalAccessException {
        if (object.getClass().isArray()) {
            return Array.getLength(object);
        }
        long sum = 0;
        for (Field field : object.getClass().getDeclaredFields()) {
            if (Modifier.isStatic(field.getModifiers())) {
                continue;
            }
            sum++;
            field.setAccessible(true);
            if (!field.getType().isPrimitive() && field.get(object) != null) {
                sum += room(field.get(object));
            }
        }
        return sum;
    }

    public static void main(String[] args) throws IllegalAccessException {
        due("the face", visibleMembers(), new TreeSet<>(Set.of(FACE)));
        due("QueueHall's modifiers", QueueHall.class.getModifiers(), Modifier.PUBLIC | Modifier.FINAL);
        names();
        staticFieldsAreFinal(QueueHall.class);
        for (Class<?> inside : QueueHall.class.getDeclaredClasses()) {
            staticFieldsAreFinal(inside);
        }
        long room = room(new QueueHall());
        System.out.println("fields and elements of one object: " + room);
        due("room for a run of constructors", room * CALLS < ROOM, true);
        System.out.println("FaceTests: " + passed + " passed, " + wrong + " failed");
        if (wrong != 0) {
            System.exit(1);
        }
    }
}
