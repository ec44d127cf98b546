import java.lang.reflect.Constructor;
import java.lang.reflect.Field;
import java.lang.reflect.Method;
import java.lang.reflect.Modifier;
import java.util.Set;
import java.util.TreeSet;

/** The public face: what the document lists, and nothing beside it. */
public final class FaceTest {
    private static final String[] FACE = {
        "int hedge(int,int,int) UnsupportedOperationException",
        "int summer()",
        "int trim(int,int,int) UnsupportedOperationException",
        "int minotaur(int) UnsupportedOperationException",
        "int gardener(int) UnsupportedOperationException",
        "int visitor(int) UnsupportedOperationException",
        "int bond(int,int,int) UnsupportedOperationException",
        "int walk(int,int) UnsupportedOperationException",
        "int rest(int,int) UnsupportedOperationException",
        "int leaves(int,int) IndexOutOfBoundsException NoSuchElementException",
        "boolean isGap(int,int) IndexOutOfBoundsException",
        "int hours(int,int) IndexOutOfBoundsException NoSuchElementException",
        "int hoursAgain(int,int) IndexOutOfBoundsException NoSuchElementException",
        "int next(int) IndexOutOfBoundsException NoSuchElementException",
        "int reached(int) IndexOutOfBoundsException",
        "int trims(int) IndexOutOfBoundsException",
        "int trimsAgain(int) IndexOutOfBoundsException",
        "boolean isNeeded(int,int) IndexOutOfBoundsException NoSuchElementException",
        "int closesIn(int,int) IndexOutOfBoundsException NoSuchElementException",
        "int summersLeft()",
        "int gardenerOf(int,int) IndexOutOfBoundsException IllegalArgumentException",
        "int visitorOf(int,int) IndexOutOfBoundsException IllegalArgumentException",
        "int wouldPay(int) IndexOutOfBoundsException NoSuchElementException",
        "int owed(int) IndexOutOfBoundsException",
        "int ranked(int,int) IllegalArgumentException NoSuchElementException",
        "int richest(int) NoSuchElementException",
        "int append(char) IllegalStateException",
        "int commands() IllegalArgumentException UnsupportedOperationException",
        "int faultPosition()",
        "int reason(int) IllegalArgumentException NoSuchElementException",
        "int line(int) IndexOutOfBoundsException",
        "int row(int) IllegalArgumentException",
        "char character(int) IndexOutOfBoundsException",
        "double meanLost() ArithmeticException",
        "float gapShare()",
        "int account(int) IllegalArgumentException",
        "int undo() IllegalStateException",
        "int save()",
        "int restore() IllegalStateException"};

    public static void main(String[] args) {
        theFaceIsTheDocuments();
        nothingElseIsOpen();
        Expect.end();
    }

    private static void theFaceIsTheDocuments() {
        Set<String> open = new TreeSet<>();
        for (Method method : MazeBonds.class.getDeclaredMethods()) {
            if (Modifier.isPublic(method.getModifiers())) {
                open.add(told(method));
            }
        }
        Expect.due("the methods of the face", open.toString(), new TreeSet<>(Set.of(FACE)).toString());
        int modifiers = MazeBonds.class.getModifiers();
        Expect.due("the class is public and final", Modifier.isPublic(modifiers) && Modifier.isFinal(modifiers), true);
        Constructor<?>[] constructors = MazeBonds.class.getDeclaredConstructors();
        Expect.due("one constructor", constructors.length, 1);
        Expect.due("it is public", Modifier.isPublic(constructors[0].getModifiers()), true);
        Expect.due("it takes nothing", constructors[0].getParameterCount(), 0);
    }

    private static String told(Method method) {
        StringBuilder text = new StringBuilder();
        text.append(method.getReturnType().getSimpleName()).append(' ').append(method.getName()).append('(');
        for (int i = 0; i < method.getParameterCount(); i++) {
            text.append(i > 0 ? "," : "").append(method.getParameterTypes()[i].getSimpleName());
        }
        text.append(')');
        for (Class<?> thrown : method.getExceptionTypes()) {
            text.append(' ').append(thrown.getSimpleName());
        }
        return text.toString();
    }

    private static void nothingElseIsOpen() {
        Set<String> names = new TreeSet<>();
        for (String method : FACE) {
            names.add(method.substring(method.indexOf(' ') + 1, method.indexOf('(')));
        }
        for (Method method : MazeBonds.class.getDeclaredMethods()) {
            if (!Modifier.isPublic(method.getModifiers())) {
                Expect.due(method + " is private", Modifier.isPrivate(method.getModifiers()), true);
                Expect.due(method + " bears no public name", names.contains(method.getName()), false);
            }
        }
        for (Field field : MazeBonds.class.getDeclaredFields()) {
            int modifiers = field.getModifiers();
            Expect.due(field + " is private", Modifier.isPrivate(modifiers), true);
            Expect.due(field + " is final, if it is static",
                !Modifier.isStatic(modifiers) || Modifier.isFinal(modifiers), true);
        }
        for (Class<?> inside : MazeBonds.class.getDeclaredClasses()) {
            int modifiers = inside.getModifiers();
            Expect.due(inside + " is not open", Modifier.isPublic(modifiers) || Modifier.isProtected(modifiers), false);
            for (Method method : inside.getDeclaredMethods()) {
                boolean isPrivate = Modifier.isPrivate(method.getModifiers());
                Expect.due(method + " bears a public name", isPrivate && names.contains(method.getName()), false);
            }
        }
    }
}
