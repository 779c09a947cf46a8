import java.lang.reflect.Constructor;
import java.lang.reflect.Field;
import java.lang.reflect.Method;
import java.lang.reflect.Modifier;
import java.util.Arrays;
import java.util.List;
import java.util.TreeSet;

/** The public face: just the constants, the constructor and the methods of the document. */
final class FaceTest {
    private static final List<String> METHODS = List.of(
        "int setCatalogue(int, int, int)", "int put(int, int, int, int)", "boolean remove(int, int)",
        "int pass(int)", "int today()", "int far(int)", "int told(int)", "int open(int, boolean)",
        "int read(int)", "boolean isOpen(int)", "int mark(int)", "int stored(int, int)", "int held(int)",
        "int wrong(int)", "int copies(int)", "int best(int)");

    public static void main(String[] args) {
        classIsPublicAndFinal();
        constantsHaveTheirValues();
        methodsAreThoseOfTheDocument();
        nothingElseIsVisible();
        Check.end();
    }

    private static void classIsPublicAndFinal() {
        int modifiers = CatalogueHarvester.class.getModifiers();
        Check.same("public", Modifier.isPublic(modifiers), true);
        Check.same("final", Modifier.isFinal(modifiers), true);
    }

    private static void constantsHaveTheirValues() {
        Check.same("NONE", CatalogueHarvester.NONE, -1);
        Check.same("FOREVER", CatalogueHarvester.FOREVER, 0);
        Check.same("WHILE", CatalogueHarvester.WHILE, 1);
        Check.same("NEVER", CatalogueHarvester.NEVER, 2);
    }

    private static void methodsAreThoseOfTheDocument() {
        TreeSet<String> got = new TreeSet<>();
        for (Method method : CatalogueHarvester.class.getDeclaredMethods()) {
            if (!Modifier.isPrivate(method.getModifiers())) {
                String parameters = Arrays.toString(method.getParameterTypes()).replace('[', '(').replace(']', ')');
                got.add(method.getReturnType() + " " + method.getName() + parameters);
            }
        }
        Check.same("the methods", got, new TreeSet<>(METHODS));
    }

    private static void nothingElseIsVisible() {
        TreeSet<String> fields = new TreeSet<>();
        for (Field field : CatalogueHarvester.class.getDeclaredFields()) {
            if (!Modifier.isPrivate(field.getModifiers())) {
                fields.add(field.getName());
            }
        }
        Check.same("the constants", fields, new TreeSet<>(List.of("NONE", "FOREVER", "WHILE", "NEVER")));
        Constructor<?>[] constructors = CatalogueHarvester.class.getDeclaredConstructors();
        Check.same("the number of constructors", constructors.length, 1);
        Check.same("the parameters of the constructor", constructors[0].getParameterCount(), 0);
    }
}
