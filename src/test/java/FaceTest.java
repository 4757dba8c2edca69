import java.lang.reflect.Field;
import java.lang.reflect.Method;
import java.lang.reflect.Modifier;
import java.util.Arrays;
import java.util.Set;
import java.util.TreeSet;

/** The face is the document's and no more, and the class keeps to rules 1 and 5 of LANGUAGE.md. */
public final class FaceTest {
    private static final String I = " throws IndexOutOfBoundsException";
    private static final String A = " throws IllegalArgumentException";
    private static final String S = "IllegalStateException";
    private static final String[] FACE = {
        "int addWard(int)" + A + ", " + S,
        "int addBarge(int)" + A + ", " + S,
        "int board(int, int)" + I + ", IllegalArgumentException, " + S,
        "int setBowls(int)" + A,
        "int layStraw(int)" + I,
        "int carry(int, int)" + I + ", " + S,
        "int pass(int)" + A,
        "int feverOf(int)" + I,
        "int wardOf(int)" + I,
        "int bargeOf(int)" + I,
        "boolean isHome(int)" + I,
        "boolean isInGreatHouse(int)" + I,
        "int hungryDaysOf(int)" + I,
        "int placesOf(int)" + I,
        "int peopleIn(int)" + I,
        "int strawOf(int)" + I,
        "int feversIn(int)" + I,
        "int daysToGo(int)" + I,
        "int keptFor(int)" + I,
        "int peopleOn(int)" + I,
        "int highestFeverOn(int)" + I,
        "int day()",
        "int wards()",
        "int barges()",
        "int people()",
        "int bowls()",
        "int freePlaces()",
        "int bowlsShort()",
        "int peopleHome()",
        "int peopleInGreatHouse()",
        "int bowlsEaten()",
        "int daysUntilHome(int)" + I,
        "int homeAfter(int)" + A,
        "int greatHouseAfter(int)" + A,
        "int bestStraw(int)" + A,
        "int bowlsNeeded()",
        "double meanFever()",
        "long digest()",
    };

    private FaceTest() {
    }

    public static void main(String[] args) {
        Class<?> c = BargeWards.class;
        Check.due("public and final", c.getModifiers(), Modifier.PUBLIC | Modifier.FINAL);
        Check.due("one constructor", c.getDeclaredConstructors().length, 1);
        Check.due("it is public", c.getConstructors().length, 1);
        Check.due("without parameters", c.getConstructors()[0].getParameterCount(), 0);
        methods(c);
        for (Field f : c.getDeclaredFields()) {
            Check.due(f.getName() + " is private", Modifier.isPrivate(f.getModifiers()), true);
        }
        staticFieldsAreFinal(c);
        for (Class<?> inside : c.getDeclaredClasses()) {
            Check.due(inside + " is static", Modifier.isStatic(inside.getModifiers()), true);
            Check.due(inside + " is not public", Modifier.isPublic(inside.getModifiers()), false);
            staticFieldsAreFinal(inside);
        }
        Check.finish("FaceTest");
    }

    private static void methods(Class<?> c) {
        Set<String> want = new TreeSet<>(Arrays.asList(FACE));
        Set<String> got = new TreeSet<>();
        Set<String> publicNames = new TreeSet<>();
        for (Method m : c.getDeclaredMethods()) {
            if (!Modifier.isPrivate(m.getModifiers())) {
                got.add(signature(m));
                publicNames.add(m.getName());
            }
        }
        Check.dueText("the face", got.toString(), want.toString());
        for (Method m : c.getDeclaredMethods()) {
            if (Modifier.isPrivate(m.getModifiers())) {
                Check.due("private " + m.getName() + " bears a public name", publicNames.contains(m.getName()), false);
            }
        }
    }

    private static String signature(Method m) {
        String text = m.getReturnType().getSimpleName() + " " + m.getName() + "("
            + names(m.getParameterTypes()) + ")";
        return m.getExceptionTypes().length == 0 ? text : text + " throws " + names(m.getExceptionTypes());
    }

    private static String names(Class<?>[] types) {
        StringBuilder text = new StringBuilder();
        for (Class<?> type : types) {
            text.append(text.length() == 0 ? "" : ", ").append(type.getSimpleName());
        }
        return text.toString();
    }

    private static void staticFieldsAreFinal(Class<?> c) {
        for (Field f : c.getDeclaredFields()) {
            int modifiers = f.getModifiers();
            Check.due(f.getName() + " is not static or final",
                !Modifier.isStatic(modifiers) || Modifier.isFinal(modifiers), true);
        }
    }
}
