import java.lang.reflect.Constructor;
import java.lang.reflect.Field;
import java.lang.reflect.Method;
import java.lang.reflect.Modifier;
import java.util.Arrays;
import java.util.Set;
import java.util.TreeSet;

/** The public face is the document's and no more, and the class keeps to the rules that reflection shows. */
public final class FaceTest {
    private static final String[] FACE = {
        "int addDocument() IllegalStateException",
        "int addLine(int, int) IndexOutOfBoundsException IllegalArgumentException IllegalStateException",
        "int rescan(int, int) IndexOutOfBoundsException IllegalArgumentException",
        "int documentOf(int) IndexOutOfBoundsException",
        "int indexOf(int) IndexOutOfBoundsException",
        "int lines(int) IndexOutOfBoundsException",
        "int addRule(int, int, int) IllegalArgumentException IllegalStateException",
        "int addSpan(int, int, int, int) IndexOutOfBoundsException IllegalArgumentException IllegalStateException",
        "int lift(int) IndexOutOfBoundsException IllegalStateException",
        "boolean isHidden(int) IndexOutOfBoundsException",
        "int hidden()",
        "int addJoin(int, int, int) IndexOutOfBoundsException IllegalArgumentException IllegalStateException",
        "boolean holds(int, int) IllegalArgumentException IndexOutOfBoundsException",
        "boolean holdsByLog(int, int) IllegalArgumentException IndexOutOfBoundsException",
        "int held(int) IllegalArgumentException",
        "int given(int) IllegalArgumentException",
        "int holders(int) IndexOutOfBoundsException",
        "char why(int, int) IllegalArgumentException IndexOutOfBoundsException IllegalStateException",
        "char root(int, int) IllegalArgumentException IndexOutOfBoundsException IllegalStateException"
            + " NoSuchElementException",
        "int causes(int, int) IllegalArgumentException IndexOutOfBoundsException IllegalStateException",
        "int request(int, int) IllegalArgumentException IndexOutOfBoundsException"
            + " UnsupportedOperationException IllegalStateException",
        "char state(int) IndexOutOfBoundsException",
        "int answer(int) IndexOutOfBoundsException IllegalStateException",
        "int withdraw(int) IndexOutOfBoundsException IllegalStateException",
        "int setPrice(int) IllegalArgumentException",
        "int owed(int) IllegalArgumentException",
        "int pay(int, int) IllegalArgumentException",
        "int pass(int) IllegalArgumentException",
        "int day()",
        "int late()",
        "long fees()",
        "float answeredShare() NoSuchElementException"};

    private static final Check check = new Check("FaceTest");

    public static void main(String[] args) {
        Class<?> office = Archivepress.class;
        check.same("the class is public and final", Modifier.PUBLIC | Modifier.FINAL, office.getModifiers());
        methods(office);
        constructors(office);
        for (Field field : office.getDeclaredFields()) {
            check.same(field.getName() + " is private", true, Modifier.isPrivate(field.getModifiers()));
        }
        staticFieldsAreFinal(office);
        check.same("at most twelve classes", true, office.getDeclaredClasses().length < 12);
        for (Class<?> inside : office.getDeclaredClasses()) {
            int modifiers = inside.getModifiers();
            check.same(inside.getName() + " is private and static", true,
                    Modifier.isPrivate(modifiers) && Modifier.isStatic(modifiers));
            staticFieldsAreFinal(inside);
        }
        check.end();
    }

    private static void methods(Class<?> office) {
        Set<String> face = new TreeSet<>();
        Set<String> publicNames = new TreeSet<>();
        for (Method method : office.getDeclaredMethods()) {
            if (Modifier.isPublic(method.getModifiers())) {
                face.add(describe(method));
                publicNames.add(method.getName());
            }
        }
        check.same("the methods", new TreeSet<>(Arrays.asList(FACE)), face);
        for (Method method : office.getDeclaredMethods()) {
            if (!Modifier.isPublic(method.getModifiers())) {
                check.same(method.getName() + " is private", true, Modifier.isPrivate(method.getModifiers()));
                check.same(method.getName() + " is no public name", false, publicNames.contains(method.getName()));
            }
        }
    }

    private static String describe(Method method) {
        StringBuilder text = new StringBuilder();
        text.append(method.getReturnType().getSimpleName()).append(' ').append(method.getName()).append('(');
        Class<?>[] types = method.getParameterTypes();
        for (int i = 0; i < types.length; i++) {
            text.append(i == 0 ? "" : ", ").append(types[i].getSimpleName());
        }
        text.append(')');
        for (Class<?> thrown : method.getExceptionTypes()) {
            text.append(' ').append(thrown.getSimpleName());
        }
        return text.toString();
    }

    private static void constructors(Class<?> office) {
        Constructor<?>[] all = office.getDeclaredConstructors();
        check.same("constructors", 1, all.length);
        check.same("the constructor is public", true, Modifier.isPublic(all[0].getModifiers()));
        check.same("the constructor's parameters", 0, all[0].getParameterCount());
    }

    private static void staticFieldsAreFinal(Class<?> owner) {
        for (Field field : owner.getDeclaredFields()) {
            if (Modifier.isStatic(field.getModifiers())) {
                check.same(field.getName() + " is final", true, Modifier.isFinal(field.getModifiers()));
            }
        }
    }
}
