import java.lang.reflect.Constructor;
import java.lang.reflect.Field;
import java.lang.reflect.Method;
import java.lang.reflect.Modifier;
import java.util.Arrays;
import java.util.List;
import java.util.TreeSet;
import java.util.stream.Collectors;

/** The public face: just the constants, the constructor and the methods of the document. */
final class FaceTest {
    // As the document has them, but for the word public and the names of the arguments.
    private static final List<String> METHODS = List.of(
        "int setCatalogue(int, int, int) throws IllegalArgumentException",
        "int put(int, int, int, int) throws IllegalArgumentException",
        "boolean remove(int, int) throws IllegalArgumentException, IllegalStateException",
        "int pass(int) throws IllegalArgumentException, IllegalStateException",
        "int today()",
        "int far(int) throws IllegalArgumentException",
        "int told(int) throws IllegalArgumentException",
        "int open(int, boolean) throws IllegalArgumentException",
        "int read(int) throws IllegalArgumentException, IllegalStateException",
        "boolean isOpen(int) throws IllegalArgumentException",
        "int mark(int) throws IllegalArgumentException",
        "int stored(int, int) throws IllegalArgumentException",
        "int held(int) throws IllegalArgumentException",
        "int wrong(int) throws IllegalArgumentException",
        "int copies(int) throws IllegalArgumentException",
        "int best(int) throws IllegalArgumentException");

    public static void main(String[] args) {
        classIsPublicAndFinal();
        constantsHaveTheirValues();
        constantsAreThoseOfTheDocument();
        constructorIsThatOfTheDocument();
        methodsAreThoseOfTheDocument();
        classesInsideAreNotPublic();
        Check.end();
    }

    private static void classIsPublicAndFinal() {
        int modifiers = CatalogueHarvester.class.getModifiers();
        Check.same("the class", Modifier.toString(modifiers), "public final");
        Check.same("its package", CatalogueHarvester.class.getPackageName(), "");
        Check.same("the class above it", CatalogueHarvester.class.getSuperclass(), Object.class);
        Check.same("its interfaces", CatalogueHarvester.class.getInterfaces().length, 0);
    }

    private static void constantsHaveTheirValues() {
        Check.same("NONE", CatalogueHarvester.NONE, -1);
        Check.same("FOREVER", CatalogueHarvester.FOREVER, 0);
        Check.same("WHILE", CatalogueHarvester.WHILE, 1);
        Check.same("NEVER", CatalogueHarvester.NEVER, 2);
    }

    private static void constantsAreThoseOfTheDocument() {
        TreeSet<String> fields = new TreeSet<>();
        for (Field field : CatalogueHarvester.class.getDeclaredFields()) {
            if (!Modifier.isPrivate(field.getModifiers())) {
                fields.add(Modifier.toString(field.getModifiers()) + " " + field.getType() + " " + field.getName());
            }
        }
        Check.same("the constants", fields, new TreeSet<>(List.of("public static final int NONE",
            "public static final int FOREVER", "public static final int WHILE", "public static final int NEVER")));
    }

    private static void constructorIsThatOfTheDocument() {
        Constructor<?>[] constructors = CatalogueHarvester.class.getDeclaredConstructors();
        Check.same("the number of constructors", constructors.length, 1);
        Check.same("the constructor", constructors[0].toString(), "public CatalogueHarvester()");
    }

    private static void methodsAreThoseOfTheDocument() {
        TreeSet<String> got = new TreeSet<>();
        for (Method method : CatalogueHarvester.class.getDeclaredMethods()) {
            if (!Modifier.isPrivate(method.getModifiers())) {
                Check.same("the modifiers of " + method.getName(), Modifier.toString(method.getModifiers()), "public");
                got.add(written(method));
            }
        }
        Check.same("the methods", got, new TreeSet<>(METHODS));
    }

    private static String written(Method method) {
        String thrown = names(method.getExceptionTypes());
        return method.getReturnType() + " " + method.getName() + "(" + names(method.getParameterTypes()) + ")"
            + (thrown.isEmpty() ? "" : " throws " + thrown);
    }

    private static String names(Class<?>[] types) {
        return Arrays.stream(types).map(Class::getSimpleName).collect(Collectors.joining(", "));
    }

    private static void classesInsideAreNotPublic() {
        for (Class<?> inside : CatalogueHarvester.class.getDeclaredClasses()) {
            int modifiers = inside.getModifiers();
            boolean isSeen = Modifier.isPublic(modifiers) || Modifier.isProtected(modifiers);
            Check.same("the class inside " + inside.getSimpleName() + " is seen", isSeen, false);
        }
    }
}
