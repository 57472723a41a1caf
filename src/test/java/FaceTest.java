import java.lang.reflect.Constructor;
import java.lang.reflect.Field;
import java.lang.reflect.Member;
import java.lang.reflect.Method;
import java.lang.reflect.Modifier;
import java.util.ArrayList;
import java.util.List;
import java.util.TreeSet;

/** The public face: just the document's constructor and methods, and nothing else that is not private. */
public final class FaceTest {
    private static final Check CHECK = new Check();

    private static final String[] FACE = {
        "int addPlace() throws IllegalStateException",
        "int addRoad(int, int, int) throws IndexOutOfBoundsException, IllegalArgumentException, IllegalStateException",
        "boolean turnRoad(int, int) throws IndexOutOfBoundsException",
        "boolean turnShepherd(int) throws IndexOutOfBoundsException",
        "int pay(int) throws IllegalArgumentException",
        "int beginErrand(int) throws IndexOutOfBoundsException, IllegalStateException",
        "int goOn(int) throws IllegalArgumentException, IllegalStateException",
        "int giveUp() throws IllegalStateException",
        "int sleep(int) throws IllegalArgumentException",
        "int places()",
        "int exitsOf(int) throws IndexOutOfBoundsException",
        "int leadsTo(int, int) throws IndexOutOfBoundsException",
        "int milesOf(int, int) throws IndexOutOfBoundsException",
        "boolean isOpen(int, int) throws IndexOutOfBoundsException",
        "boolean hasShepherd(int) throws IndexOutOfBoundsException",
        "int distance(int, int) throws IndexOutOfBoundsException",
        "int whereIs()",
        "int coins()",
        "int goal()",
        "int wayLength()",
        "boolean isTried(int, int) throws IndexOutOfBoundsException",
        "int remembered(int, int) throws IndexOutOfBoundsException",
        "int strength(int, int) throws IndexOutOfBoundsException",
        "boolean knowsWay(int) throws IndexOutOfBoundsException",
        "int milesWalked()",
        "int milesDoubled()",
        "int errandsDone()",
        "int errandsInVain()",
        "int asked()",
        "int wouldWalk(int) throws IndexOutOfBoundsException, IllegalStateException",
        "int bestShepherd(int) throws IndexOutOfBoundsException, IllegalStateException",
        "double meanMiles()",
        "long digest()",
    };

    private FaceTest() {
    }

    public static void main(String[] args) {
        CHECK.same("the class is public and final", Modifier.isPublic(MapCarrier.class.getModifiers())
            && Modifier.isFinal(MapCarrier.class.getModifiers()), true);
        CHECK.sameText("the methods", publicMethods().toString(), new TreeSet<>(List.of(FACE)).toString());
        CHECK.sameText("other members that are not private", otherOpenMembers().toString(), "[]");
        CHECK.sameText("private methods with public names", privateNamesakes().toString(), "[]");
        for (Constructor<?> made : MapCarrier.class.getDeclaredConstructors()) {
            CHECK.sameText("the constructor", made.toString(), "public MapCarrier()");
        }
        CHECK.close();
    }

    private static TreeSet<String> publicMethods() {
        TreeSet<String> found = new TreeSet<>();
        for (Method method : MapCarrier.class.getDeclaredMethods()) {
            if (Modifier.isPublic(method.getModifiers())) {
                found.add(headOf(method));
            }
        }
        return found;
    }

    private static String headOf(Method method) {
        StringBuilder head = new StringBuilder();
        head.append(method.getReturnType().getSimpleName()).append(' ').append(method.getName());
        head.append('(').append(names(method.getParameterTypes())).append(')');
        if (method.getExceptionTypes().length > 0) {
            head.append(" throws ").append(names(method.getExceptionTypes()));
        }
        return head.toString();
    }

    private static String names(Class<?>[] types) {
        List<String> names = new ArrayList<>();
        for (Class<?> type : types) {
            names.add(type.getSimpleName());
        }
        return String.join(", ", names);
    }

    private static List<String> otherOpenMembers() {
        List<Member> members = new ArrayList<>();
        for (Method method : MapCarrier.class.getDeclaredMethods()) {
            if (!Modifier.isPublic(method.getModifiers())) {
                members.add(method);
            }
        }
        for (Field field : MapCarrier.class.getDeclaredFields()) {
            members.add(field);
        }
        List<String> open = new ArrayList<>();
        for (Member member : members) {
            if (!Modifier.isPrivate(member.getModifiers())) {
                open.add(member.getName());
            }
        }
        return open;
    }

    private static List<String> privateNamesakes() {
        List<Method> methods = new ArrayList<>(List.of(MapCarrier.class.getDeclaredMethods()));
        for (Class<?> inner : MapCarrier.class.getDeclaredClasses()) {
            methods.addAll(List.of(inner.getDeclaredMethods()));
        }
        List<String> found = new ArrayList<>();
        for (Method method : methods) {
            for (String head : FACE) {
                if (!Modifier.isPublic(method.getModifiers()) && head.contains(" " + method.getName() + "(")) {
                    found.add(method.getName());
                }
            }
        }
        return found;
    }
}
