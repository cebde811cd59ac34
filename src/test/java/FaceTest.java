import java.lang.reflect.Constructor;
import java.lang.reflect.Field;
import java.lang.reflect.Method;
import java.lang.reflect.Modifier;
import java.util.Set;
import java.util.TreeSet;

/** The public face is the document's, and LANGUAGE.md's rule 1 on members and names holds. */
public final class FaceTest {
    private static final String FACE = """
            int addBlock(int) IllegalArgumentException IllegalStateException
            int addCushion(int) IllegalArgumentException IllegalStateException
            int link(int,int) IndexOutOfBoundsException IllegalArgumentException IllegalStateException
            int unlink(int,int) IndexOutOfBoundsException NoSuchElementException
            int putCat(int) IndexOutOfBoundsException IllegalStateException UnsupportedOperationException
            int removeCat(int) IndexOutOfBoundsException NoSuchElementException
            int blockCount()
            int length(int) IndexOutOfBoundsException
            boolean isCushion(int) IndexOutOfBoundsException
            boolean hasCat(int) IndexOutOfBoundsException
            boolean areLinked(int,int) IndexOutOfBoundsException
            int degree(int) IndexOutOfBoundsException
            int trainIn(int) IndexOutOfBoundsException NoSuchElementException
            int reservedBy(int) IndexOutOfBoundsException NoSuchElementException
            char signal(int) IndexOutOfBoundsException
            int distance(int,int) IndexOutOfBoundsException NoSuchElementException
            int distanceByRounds(int,int) IndexOutOfBoundsException NoSuchElementException
            int nextBlock(int) IndexOutOfBoundsException NoSuchElementException
            int partCount()
            int partCountByUnions()
            int nearestCushion(int) IndexOutOfBoundsException NoSuchElementException
            int addTrain(int,int) IndexOutOfBoundsException IllegalArgumentException IllegalStateException \
            UnsupportedOperationException
            int setGoal(int,int) IndexOutOfBoundsException IllegalArgumentException UnsupportedOperationException \
            NoSuchElementException
            int clearGoal(int) IndexOutOfBoundsException NoSuchElementException
            int reserve(int,int) IndexOutOfBoundsException IllegalArgumentException IllegalStateException \
            UnsupportedOperationException
            int cancelReservation(int) IndexOutOfBoundsException NoSuchElementException
            int rescue(int) IndexOutOfBoundsException IllegalStateException
            int trainCount()
            int blockOf(int) IndexOutOfBoundsException
            int priority(int) IndexOutOfBoundsException
            int remainingTicks(int) IndexOutOfBoundsException
            int goal(int) IndexOutOfBoundsException NoSuchElementException
            boolean isDerailed(int) IndexOutOfBoundsException
            int waits(int) IndexOutOfBoundsException
            int trainByPriority(int) NoSuchElementException
            int blockedBy(int) IndexOutOfBoundsException NoSuchElementException
            int deadlocked()
            int deadlockedByTable()
            int passTicks(int) IllegalArgumentException
            int ticks()
            int arrivals()
            int ticksUntilArrival(int) IndexOutOfBoundsException NoSuchElementException
            double meanWaits() ArithmeticException
            float occupiedFraction() ArithmeticException
            int writeTrain(int) IndexOutOfBoundsException
            int writeSignals()
            char outputCharacter(int) IndexOutOfBoundsException
            boolean isConsistent()
            int feed(char) IllegalStateException
            int execute() IllegalArgumentException UnsupportedOperationException
            int errorPosition() NoSuchElementException
            int failedCommand() NoSuchElementException
            int undo() IllegalStateException
            int undoCount()
            int save()
            int restore() IllegalStateException
            """;

    public static void main(String[] args) {
        Set<String> due = new TreeSet<>(FACE.lines().toList());
        Set<String> got = new TreeSet<>();
        Set<String> names = new TreeSet<>();
        for (Method method : SofaRailway.class.getDeclaredMethods()) {
            if (Modifier.isPublic(method.getModifiers())) {
                got.add(describe(method));
                names.add(method.getName());
                Check.no(method + " static", Modifier.isStatic(method.getModifiers()));
            } else {
                Check.yes(method + " private", Modifier.isPrivate(method.getModifiers()));
            }
        }
        Check.same("the face", String.join("\n", got), String.join("\n", due));
        Check.same("the class", Modifier.toString(SofaRailway.class.getModifiers()), "public final");
        Constructor<?>[] constructors = SofaRailway.class.getDeclaredConstructors();
        Check.same("one constructor", constructors.length, 1);
        Check.same("its parameters", constructors[0].getParameterCount(), 0);
        Check.yes("it is public", Modifier.isPublic(constructors[0].getModifiers()));
        for (Field field : SofaRailway.class.getDeclaredFields()) {
            Check.yes(field + " private", Modifier.isPrivate(field.getModifiers()));
        }
        noOtherMethodBearsTheName(names);
        Check.finish();
    }

    private static String describe(Method method) {
        StringBuilder text = new StringBuilder();
        text.append(method.getReturnType().getSimpleName()).append(' ').append(method.getName()).append('(');
        String comma = "";
        for (Class<?> type : method.getParameterTypes()) {
            text.append(comma).append(type.getSimpleName());
            comma = ",";
        }
        text.append(')');
        for (Class<?> type : method.getExceptionTypes()) {
            text.append(' ').append(type.getSimpleName());
        }
        return text.toString();
    }

    private static void noOtherMethodBearsTheName(Set<String> names) {
        for (Method method : SofaRailway.class.getDeclaredMethods()) {
            Check.no(method + " bears a public name",
                    Modifier.isPrivate(method.getModifiers()) && names.contains(method.getName()));
        }
        for (Class<?> inside : SofaRailway.class.getDeclaredClasses()) {
            Check.yes(inside + " static", Modifier.isStatic(inside.getModifiers()));
            Check.no(inside + " public", Modifier.isPublic(inside.getModifiers()));
            for (Method method : inside.getDeclaredMethods()) {
                Check.no(method + " bears a public name",
                        Modifier.isPrivate(method.getModifiers()) && names.contains(method.getName()));
            }
        }
    }
}
