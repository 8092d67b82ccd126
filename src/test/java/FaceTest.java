import java.lang.reflect.Constructor;
import java.lang.reflect.Field;
import java.lang.reflect.Method;
import java.lang.reflect.Modifier;
import java.util.Set;
import java.util.TreeSet;

/** The face is that of the document, with nothing more and nothing less. */
public final class FaceTest {
    private static final String[] FACE = {
        "int takeLine() throws IllegalStateException",
        "int takeWord() throws IllegalStateException",
        "int setRules(boolean, boolean)",
        "int look() throws IllegalStateException",
        "int finish()",
        "int rewind()",
        "int setLetter(int, int) throws IndexOutOfBoundsException, IllegalArgumentException",
        "int lineLength()",
        "int wordLength()",
        "int lineLetter(int) throws IndexOutOfBoundsException",
        "int wordLetter(int) throws IndexOutOfBoundsException",
        "int place()",
        "boolean isOver()",
        "int lookCount()",
        "int comparedCount()",
        "int foundCount()",
        "int foundPlace(int) throws IndexOutOfBoundsException",
        "int skippedPlaces()",
        "int lastPlaceOf(int) throws IllegalArgumentException",
        "int letterSkip(int, int) throws IndexOutOfBoundsException, IllegalArgumentException",
        "int endSkip(int) throws IndexOutOfBoundsException",
        "int endSkipByTrying(int) throws IndexOutOfBoundsException",
        "int border()",
        "int period()",
        "int occurrences()",
        "int occurrencesByTrying()",
        "int comparedWith(boolean, boolean)",
        "int differenceAt(int) throws IndexOutOfBoundsException, IllegalStateException",
        "int appendText(long) throws IllegalArgumentException, IllegalStateException",
        "int clearText()",
        "int textLength()",
        "int textError()",
        "int undo() throws IllegalStateException",
        "int undoCount()",
        "int saveState(int) throws IndexOutOfBoundsException",
        "int loadState(int) throws IndexOutOfBoundsException, IllegalStateException",
    };

    private final Checks checks = new Checks("FaceTest");

    public static void main(String[] args) {
        FaceTest test = new FaceTest();
        test.theClass();
        test.methods();
        test.fields();
        test.checks.end();
    }

    private void theClass() {
        int modifiers = BackwardSearch.class.getModifiers();
        checks.due("public and final", modifiers, Modifier.PUBLIC | Modifier.FINAL);
        Constructor<?>[] all = BackwardSearch.class.getDeclaredConstructors();
        checks.due("constructors", all.length, 1);
        checks.due("the constructor is public", all[0].getModifiers(), Modifier.PUBLIC);
        checks.due("its parameters", all[0].getParameterCount(), 0);
        for (Class<?> inside : BackwardSearch.class.getDeclaredClasses()) {
            checks.due(inside + " is static", Modifier.isStatic(inside.getModifiers()), true);
            checks.due(inside + " is hidden", isOpen(inside.getModifiers()), false);
        }
    }

    private static boolean isOpen(int modifiers) {
        return Modifier.isPublic(modifiers) || Modifier.isProtected(modifiers);
    }

    private void methods() {
        Set<String> got = new TreeSet<>();
        Set<String> names = new TreeSet<>();
        for (Method method : BackwardSearch.class.getDeclaredMethods()) {
            if (!Modifier.isPrivate(method.getModifiers())) {
                checks.due(method + "", method.getModifiers(), Modifier.PUBLIC);
                got.add(written(method));
                names.add(method.getName());
            }
        }
        checks.due("the methods", got.toString(), new TreeSet<>(Set.of(FACE)).toString());
        for (Method method : BackwardSearch.class.getDeclaredMethods()) {
            boolean hidden = Modifier.isPrivate(method.getModifiers());
            checks.due(method + "", hidden && names.contains(method.getName()), false);
        }
    }

    private static String written(Method method) {
        String text = method.toGenericString();
        return text.replace("public ", "").replace("BackwardSearch.", "")
                .replace("java.lang.", "").replaceAll(", *", ", ").replaceAll(",(\\S)", ", $1");
    }

    private void fields() {
        for (Field field : BackwardSearch.class.getDeclaredFields()) {
            boolean isNone = field.getName().equals("NONE");
            int due = isNone ? Modifier.PUBLIC | Modifier.STATIC | Modifier.FINAL : Modifier.PRIVATE;
            int mask = isNone ? -1 : Modifier.PUBLIC | Modifier.PROTECTED | Modifier.PRIVATE;
            checks.due(field + "", field.getModifiers() & mask, due);
        }
        checks.due("NONE", BackwardSearch.NONE, -1);
    }
}
