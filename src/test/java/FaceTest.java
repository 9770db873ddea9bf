import java.lang.reflect.Constructor;
import java.lang.reflect.Field;
import java.lang.reflect.Method;
import java.lang.reflect.Modifier;
import java.util.Arrays;
import java.util.Set;
import java.util.TreeSet;

/** The face of the document: these members and no others, and private names that are not theirs. */
public final class FaceTest {
    private static final Check CHECK = new Check();
    private static final String[] FACE = {
        "type(long, int) int: IllegalArgumentException IllegalStateException",
        "read(int) int: IllegalArgumentException",
        "place() int:",
        "letter(int, int, boolean, boolean) void: IndexOutOfBoundsException IllegalArgumentException",
        "change(int, int, int) void: IndexOutOfBoundsException IllegalArgumentException",
        "limits(int, int) void: IllegalArgumentException",
        "windows(int, int) void: IllegalArgumentException",
        "extras(int, int) void: IllegalArgumentException",
        "count(int) int: IllegalArgumentException",
        "residue(int, boolean, int) int: IndexOutOfBoundsException",
        "size(int, int) int: IndexOutOfBoundsException IllegalArgumentException",
        "name(int, int) int: IndexOutOfBoundsException",
        "peptide(int, boolean, int, int) int: IndexOutOfBoundsException IllegalArgumentException",
        "weight(int, boolean, int) long: IndexOutOfBoundsException",
        "peak(int, int) long: IndexOutOfBoundsException",
        "search() int:",
        "candidates(int) int: IllegalStateException IndexOutOfBoundsException",
        "match(int, int) int: IllegalStateException IndexOutOfBoundsException IllegalArgumentException"
            + " NoSuchElementException",
        "changed(int, int) int: IllegalStateException IndexOutOfBoundsException NoSuchElementException",
        "rate(int, int) int: IllegalStateException IndexOutOfBoundsException IllegalArgumentException"
            + " NoSuchElementException",
        "explain(int, int) int: IllegalArgumentException IllegalStateException",
    };

    public static void main(String[] args) {
        Set<String> face = new TreeSet<>();
        Set<String> faceNames = new TreeSet<>();
        for (Method method : PeptideSearch.class.getDeclaredMethods()) {
            if (!Modifier.isPrivate(method.getModifiers())) {
                face.add(told(method));
                faceNames.add(method.getName());
            }
        }
        Set<String> due = new TreeSet<>(Arrays.asList(FACE));
        if (!face.equals(due)) {
            System.out.println("the face is " + face);
            System.out.println("due is " + due);
        }
        CHECK.due("the methods are the document's", face.equals(due) ? 1 : 0, 1);
        noNameTwice(PeptideSearch.class, faceNames);
        fieldsAndConstructors();
        classesInside(faceNames);
        CHECK.end();
    }

    private static String told(Method method) {
        StringBuilder text = new StringBuilder(method.getName() + "(");
        for (Class<?> parameter : method.getParameterTypes()) {
            text.append(text.charAt(text.length() - 1) == '(' ? "" : ", ").append(parameter.getSimpleName());
        }
        text.append(") ").append(method.getReturnType().getSimpleName()).append(':');
        for (Class<?> exception : method.getExceptionTypes()) {
            text.append(' ').append(exception.getSimpleName());
        }
        return text.toString();
    }

    private static void noNameTwice(Class<?> holder, Set<String> faceNames) {
        for (Method method : holder.getDeclaredMethods()) {
            if (Modifier.isPrivate(method.getModifiers())) {
                CHECK.due(method.getName() + " is a name of the face", faceNames.contains(method.getName()) ? 1 : 0, 0);
            }
        }
    }

    private static void classesInside(Set<String> faceNames) {
        for (Class<?> inside : PeptideSearch.class.getDeclaredClasses()) {
            String name = inside.getSimpleName();
            CHECK.due(name + " is private", Modifier.isPrivate(inside.getModifiers()) ? 1 : 0, 1);
            CHECK.due(name + " is static", Modifier.isStatic(inside.getModifiers()) ? 1 : 0, 1);
            noNameTwice(inside, faceNames);
        }
    }

    private static void fieldsAndConstructors() {
        for (Field field : PeptideSearch.class.getDeclaredFields()) {
            boolean open = !Modifier.isPrivate(field.getModifiers());
            CHECK.due(field.getName() + " is open", open ? 1 : 0, field.getName().equals("NONE") ? 1 : 0);
        }
        Constructor<?>[] constructors = PeptideSearch.class.getDeclaredConstructors();
        CHECK.due("how many constructors", constructors.length, 1);
        CHECK.due("the constructor's parameters", constructors[0].getParameterCount(), 0);
        CHECK.due("the constructor is public", Modifier.isPublic(constructors[0].getModifiers()) ? 1 : 0, 1);
        CHECK.due("the class is final", Modifier.isFinal(PeptideSearch.class.getModifiers()) ? 1 : 0, 1);
        CHECK.due("NONE", PeptideSearch.NONE, -1);
    }
}
