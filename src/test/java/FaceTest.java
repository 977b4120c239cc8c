import java.lang.reflect.Constructor;
import java.lang.reflect.Field;
import java.lang.reflect.Method;
import java.lang.reflect.Modifier;
import java.util.ArrayList;
import java.util.List;
import java.util.TreeSet;

/** The face of the class is that of the document, and nothing else of it can be seen. */
public final class FaceTest {
    private static final String[] FACE = {
        "int feed(char) IllegalStateException",
        "int errorPosition() NoSuchElementException",
        "int setMetre(int,int,int) IllegalArgumentException",
        "int readMetre() IllegalArgumentException",
        "int metre(int) IllegalArgumentException",
        "int setTolerance(int) IllegalArgumentException",
        "int readException() IllegalArgumentException,IllegalStateException",
        "int dropException(int) IndexOutOfBoundsException",
        "int exceptions() ",
        "int addLine(int,int) IndexOutOfBoundsException,IllegalArgumentException,IllegalStateException",
        "int replaceLine(int,int) IndexOutOfBoundsException,IllegalArgumentException",
        "int removeLine(int,int) IndexOutOfBoundsException",
        "int moveLine(int,int,int) IndexOutOfBoundsException",
        "int copyDraft(int,int) IndexOutOfBoundsException",
        "int clearDraft(int) IndexOutOfBoundsException",
        "char character(int,int,int) IndexOutOfBoundsException",
        "int line(int,int,int) IndexOutOfBoundsException,IllegalArgumentException",
        "int word(int,int,int,int) IndexOutOfBoundsException,IllegalArgumentException",
        "char rhyme(int,int,int) IndexOutOfBoundsException",
        "int rhymes(int,int,int) IndexOutOfBoundsException",
        "int cost(int,int,int,boolean) IndexOutOfBoundsException,IllegalArgumentException,NoSuchElementException",
        "int scan(int,int,int) IndexOutOfBoundsException,IllegalArgumentException,NoSuchElementException",
        "int scans(int,int) IndexOutOfBoundsException",
        "int reason(int,int) IndexOutOfBoundsException",
        "int difference(int,int) IndexOutOfBoundsException",
        "int suits(int) IndexOutOfBoundsException,NoSuchElementException",
        "int account(int,int) IndexOutOfBoundsException,IllegalArgumentException",
        "float meanCost(int) IndexOutOfBoundsException,ArithmeticException",
        "int undo() IllegalStateException",
        "int save() ",
        "int restore() IllegalStateException",
    };

    private FaceTest() {
    }

    public static void main(String[] args) {
        Class<VerseScanner> face = VerseScanner.class;
        Due.holds("the class is public", Modifier.isPublic(face.getModifiers()));
        Due.holds("the class is final", Modifier.isFinal(face.getModifiers()));
        Constructor<?>[] made = face.getDeclaredConstructors();
        Due.holds("one public constructor without parameters", made.length == 1
                && Modifier.isPublic(made[0].getModifiers()) && made[0].getParameterCount() == 0);
        TreeSet<String> seen = new TreeSet<>();
        TreeSet<String> names = new TreeSet<>();
        List<String> hidden = new ArrayList<>();
        for (Method method : face.getDeclaredMethods()) {
            if (Modifier.isPrivate(method.getModifiers())) {
                hidden.add(method.getName());
            } else {
                seen.add(signature(method));
                names.add(method.getName());
            }
        }
        Due.is("the face", new TreeSet<>(List.of(FACE)), () -> seen);
        for (String name : hidden) {
            Due.holds(name + " is private and has the name of a public method", !names.contains(name));
        }
        for (Field field : face.getDeclaredFields()) {
            Due.holds(field.getName() + " is private", Modifier.isPrivate(field.getModifiers()));
            Due.holds(field.getName() + " is final, as it is static",
                    !Modifier.isStatic(field.getModifiers()) || Modifier.isFinal(field.getModifiers()));
        }
        for (Class<?> inside : face.getDeclaredClasses()) {
            Due.holds(inside.getName() + " is static", Modifier.isStatic(inside.getModifiers()));
            Due.holds(inside.getName() + " is not seen outside",
                    !Modifier.isPublic(inside.getModifiers()) && !Modifier.isProtected(inside.getModifiers()));
            for (Method method : inside.getDeclaredMethods()) {
                Due.holds(method + " has the name of a public method", !names.contains(method.getName()));
            }
        }
        Due.holds("at most 12 classes", face.getDeclaredClasses().length + 1 <= 12);
        Due.end();
    }

    private static String signature(Method method) {
        List<String> takes = new ArrayList<>();
        for (Class<?> type : method.getParameterTypes()) {
            takes.add(type.getSimpleName());
        }
        List<String> fails = new ArrayList<>();
        for (Class<?> type : method.getExceptionTypes()) {
            fails.add(type.getSimpleName());
        }
        return method.getReturnType().getSimpleName() + " " + method.getName()
                + "(" + String.join(",", takes) + ") " + String.join(",", fails);
    }
}
