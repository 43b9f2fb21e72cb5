import java.lang.reflect.Constructor;
import java.lang.reflect.Field;
import java.lang.reflect.Method;
import java.lang.reflect.Modifier;
import java.util.Arrays;
import java.util.TreeSet;

/** Promise 1, and the public face as the document writes it. */
public final class FaceTest {
    private static final String[] FACE = {
        "int rule(char,int,int) throws IllegalArgumentException,UnsupportedOperationException,IllegalStateException",
        "int open() throws IllegalStateException",
        "int drop(int) throws IndexOutOfBoundsException",
        "int paint(int,int,int,int,int) throws IndexOutOfBoundsException,IllegalArgumentException",
        "int road(int,int,int,boolean,boolean) throws IndexOutOfBoundsException,IllegalArgumentException",
        "int seen(int,int) throws IndexOutOfBoundsException,IllegalArgumentException",
        "int edits(int) throws IndexOutOfBoundsException",
        "int conflicts(int) throws IndexOutOfBoundsException",
        "int conflict(int,int) throws IndexOutOfBoundsException,NoSuchElementException",
        "int settle(int,int,boolean) throws IndexOutOfBoundsException,IllegalArgumentException,"
            + "UnsupportedOperationException",
        "int breaks(int) throws IndexOutOfBoundsException",
        "int merge(int) throws IndexOutOfBoundsException,UnsupportedOperationException,IllegalStateException",
        "int undo() throws NoSuchElementException,UnsupportedOperationException,IllegalStateException",
        "int version()",
        "int value(int,int) throws IllegalArgumentException",
        "int changes(int) throws IllegalArgumentException",
        "int changed(int,int) throws IllegalArgumentException,NoSuchElementException",
        "int route(int,int,int) throws IllegalArgumentException,NoSuchElementException",
        "int tile(int,int,int,int) throws IllegalArgumentException",
        "boolean isKept(int,int,int,int) throws IllegalArgumentException",
        "int made()",
        "int leaves(int) throws IllegalArgumentException",
        "int border(int,int,int) throws IllegalArgumentException",
        "int size(int,int) throws IllegalArgumentException",
        "int walk(int,int) throws IllegalArgumentException",
        "boolean hasNext()",
        "int next() throws IllegalStateException,NoSuchElementException",
        "int device() throws IllegalStateException",
        "int note(int,int,int,int,int,int) throws IndexOutOfBoundsException,IllegalArgumentException,"
            + "IllegalStateException",
        "int home(int,int,int,int) throws IndexOutOfBoundsException,IllegalArgumentException",
        "int ahead(int) throws IndexOutOfBoundsException",
        "float fullShare(int) throws IllegalArgumentException",
        "double meanSize(int) throws IllegalArgumentException,ArithmeticException",
        "long checksum()",
        "boolean isSound()",
    };

    public static void main(String[] args) {
        theFaceIsTheDocuments();
        aNewObjectIsEmpty();
        objectsAreApart();
        Check.end();
    }

    private static void theFaceIsTheDocuments() {
        TreeSet<String> found = new TreeSet<>();
        TreeSet<String> hidden = new TreeSet<>();
        TreeSet<String> names = new TreeSet<>();
        for (Method method : CindermapStore.class.getDeclaredMethods()) {
            if (Modifier.isPrivate(method.getModifiers())) {
                hidden.add(method.getName());
            } else {
                Check.is("modifiers of " + method, method.getModifiers(), Modifier.PUBLIC);
                found.add(signature(method));
                names.add(method.getName());
            }
        }
        Check.is("the methods of the face", found, new TreeSet<>(Arrays.asList(FACE)));
        hidden.retainAll(names);
        Check.is("private methods with public names", hidden, new TreeSet<String>());
        for (Class<?> inside : CindermapStore.class.getDeclaredClasses()) {
            Check.is(inside + " is open to all", inside.getModifiers() & (Modifier.PUBLIC | Modifier.PROTECTED), 0);
        }
        Check.is("the class's modifiers", CindermapStore.class.getModifiers(), Modifier.PUBLIC | Modifier.FINAL);
        Constructor<?>[] constructors = CindermapStore.class.getDeclaredConstructors();
        Check.is("the number of constructors", constructors.length, 1);
        Check.is("the constructor", constructors[0].toString(), "public CindermapStore()");
        for (Field field : CindermapStore.class.getDeclaredFields()) {
            Check.is(field + " is private", Modifier.isPrivate(field.getModifiers()), true);
        }
    }

    private static String signature(Method method) {
        return method.toGenericString().replace("public ", "").replace("CindermapStore.", "")
            .replace("java.lang.", "").replace("java.util.", "");
    }

    private static void aNewObjectIsEmpty() {
        CindermapStore x = new CindermapStore();
        Check.is("version()", x.version(), 0);
        Check.is("made()", x.made(), 0);
        Check.is("hasNext()", x.hasNext(), false);
        Check.is("isSound()", x.isSound(), true);
        for (int spot = 0; spot < 304; spot++) {
            Check.is("value(" + spot + ", 0)", x.value(spot, 0), 0);
        }
        for (int branch = 0; branch < 4; branch++) {
            int number = branch;
            Check.fails("edits(" + branch + ")", Check.INDEX, x, () -> x.edits(number));
        }
        for (int device = 0; device < 3; device++) {
            int number = device;
            Check.fails("ahead(" + device + ")", Check.INDEX, x, () -> x.ahead(number));
        }
        Check.is("the first rule's number", x.rule('m', 0, 0), 0);
        Check.is("the first branch's number", x.open(), 0);
        Check.is("the first device's number", x.device(), 0);
    }

    private static void objectsAreApart() {
        CindermapStore x = new CindermapStore();
        CindermapStore y = new CindermapStore();
        Check.bring(x, 1, 2, 3, 4);
        Check.is("version() of another object", y.version(), 0);
        Check.is("size(1, 4) of another object", y.size(1, 4), 0);
    }
}
