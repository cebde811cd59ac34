import java.io.IOException;
import java.lang.reflect.Constructor;
import java.lang.reflect.Field;
import java.lang.reflect.Method;
import java.lang.reflect.Modifier;
import java.util.List;
import java.util.Set;
import java.util.TreeSet;

/** The public face is the document's, and LANGUAGE.md's rule 1 on members and names holds. */
public final class FaceTest {
    private FaceTest() {
    }

    public static void main(String[] args) throws IOException {
        List<String> face = Document.face();
        Check.same("the calls of the document", face.size(), 56);
        Set<String> due = new TreeSet<>(face);
        Set<String> got = new TreeSet<>();
        Set<String> names = new TreeSet<>();
        for (Method method : SofaRailway.class.getDeclaredMethods()) {
            if (Modifier.isPublic(method.getModifiers())) {
                got.add(describe(method));
                names.add(method.getName());
                Check.no(method + " static", Modifier.isStatic(method.getModifiers()));
            } else {
                Check.yes(method + " private", Modifier.isPrivate(method.getModifiers()));
            }
        }
        Check.same("the face", String.join("\n", got), String.join("\n", due));
        Check.same("the class", Modifier.toString(SofaRailway.class.getModifiers()), "public final");
        Constructor<?>[] constructors = SofaRailway.class.getDeclaredConstructors();
        Check.same("one constructor", constructors.length, 1);
        Check.same("its parameters", constructors[0].getParameterCount(), 0);
        Check.yes("it is public", Modifier.isPublic(constructors[0].getModifiers()));
        for (Field field : SofaRailway.class.getDeclaredFields()) {
            Check.yes(field + " private", Modifier.isPrivate(field.getModifiers()));
        }
        noOtherMethodBearsTheName(names);
        Check.finish();
    }

    private static String describe(Method method) {
        StringBuilder text = new StringBuilder();
        text.append(method.getReturnType().getSimpleName()).append(' ').append(method.getName()).append('(');
        String comma = "";
        for (Class<?> type : method.getParameterTypes()) {
            text.append(comma).append(type.getSimpleName());
            comma = ",";
        }
        text.append(')');
        for (Class<?> type : method.getExceptionTypes()) {
            text.append(' ').append(type.getSimpleName());
        }
        return text.toString();
    }

    private static void noOtherMethodBearsTheName(Set<String> names) {
        for (Method method : SofaRailway.class.getDeclaredMethods()) {
            Check.no(method + " bears a public name",
                    Modifier.isPrivate(method.getModifiers()) && names.contains(method.getName()));
        }
        for (Class<?> inside : SofaRailway.class.getDeclaredClasses()) {
            Check.yes(inside + " static", Modifier.isStatic(inside.getModifiers()));
            Check.no(inside + " public", Modifier.isPublic(inside.getModifiers()));
            for (Method method : inside.getDeclaredMethods()) {
                Check.no(method + " bears a public name",
                        Modifier.isPrivate(method.getModifiers()) && names.contains(method.getName()));
            }
        }
    }
}
