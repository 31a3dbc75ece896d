import java.io.IOException;
import java.lang.reflect.Field;
import java.lang.reflect.Method;
import java.lang.reflect.Modifier;
import java.nio.file.Files;
import java.nio.file.Path;
import java.util.Arrays;
import java.util.List;
import java.util.Set;
import java.util.TreeSet;

/** The face is the document's, and what of LANGUAGE.md can be seen from outside holds. */
public final class FaceTest {
    private static final List<String> FACE = List.of("int book(int,int,int,int)", "boolean withdraw(int,boolean)",
            "int meaning(int,int,int)", "int line(int,int,int,int,int,int,int)", "int harvest(int,int,int)",
            "int law(int,int,int,int)", "int reading(int,int,int)", "int leaveOut(int,int,boolean)",
            "int mend(int)", "int prayer(int,int,int,int)", "int mark(int,int,int)", "int call()",
            "int number(int,int,int,int)", "int named(int,int)", "int easter(int,int)", "int can(int,int)",
            "int ofBook(int,int)", "int means(int,int)", "int ofLine(int,int)", "int degree(int,int,int,int)",
            "int ofYear(int,int,int)", "double fit(int,boolean)", "double heat(int,int)", "int ofBreak(int,int)",
            "int drought(int,int,int)", "double returns(int,int)", "int ofTown(int,int)", "int desk(int)",
            "String tell(int)", "int without(int)", "int wouldBe(int,int,int,int,int)", "double test(int,int)",
            "boolean isSound()", "long digest()");

    public static void main(String[] args) throws IOException {
        Set<String> open = new TreeSet<>();
        Set<String> names = new TreeSet<>();
        for (Method method : Diarycold.class.getDeclaredMethods()) {
            if (!Modifier.isPrivate(method.getModifiers())) {
                open.add(signature(method));
                names.add(method.getName());
                Check.due(method + " is public", Modifier.isPublic(method.getModifiers()), true);
            }
        }
        Check.due("the face", open, new TreeSet<>(FACE));
        Check.due("final", Modifier.isFinal(Diarycold.class.getModifiers()), true);
        Check.due("public", Modifier.isPublic(Diarycold.class.getModifiers()), true);
        Check.due("constructors", Diarycold.class.getDeclaredConstructors().length, 1);
        Check.due("public ones", Diarycold.class.getConstructors().length, 1);
        hidden(Diarycold.class, names);
        for (Class<?> inside : Diarycold.class.getDeclaredClasses()) {
            Check.due(inside + " static", Modifier.isStatic(inside.getModifiers()), true);
            Check.due(inside + " public", Modifier.isPublic(inside.getModifiers()), false);
            hidden(inside, names);
        }
        words();
        Check.end();
    }

    private static String signature(Method method) {
        StringBuilder text = new StringBuilder(method.getReturnType().getSimpleName());
        text.append(' ').append(method.getName()).append('(');
        text.append(String.join(",", Arrays.stream(method.getParameterTypes()).map(Class::getSimpleName).toList()));
        return text.append(')').toString();
    }

    /** No private member of a name of the face, no field that others see, no static state. */
    private static void hidden(Class<?> where, Set<String> names) {
        for (Method method : where.getDeclaredMethods()) {
            boolean isOpen = where == Diarycold.class && !Modifier.isPrivate(method.getModifiers());
            Check.due(method + " bears a name of the face", !isOpen && names.contains(method.getName()), false);
            Check.due(method + " has at most 7 parameters", method.getParameterCount() <= 7, true);
        }
        for (Field field : where.getDeclaredFields()) {
            boolean isHidden = where != Diarycold.class || Modifier.isPrivate(field.getModifiers());
            Check.due(field + " is hidden", isHidden, true);
            boolean isStill = !Modifier.isStatic(field.getModifiers()) || Modifier.isFinal(field.getModifiers());
            Check.due(field + " is no static state", isStill, true);
        }
    }

    private static void words() throws IOException {
        String text = Files.readString(Path.of("src/main/java/Diarycold.java"));
        for (String word : List.of("->", "::", "catch", "finally", "synchronized", "assert ", "System.out", "Random",
                "Exact(", "static {", "package ")) {
            Check.due("LANGUAGE.md has no " + word, text.contains(word), false);
        }
        Check.due("signs 1 to 127 alone", text.chars().allMatch(c -> c >= 1 && c <= 127), true);
    }
}
