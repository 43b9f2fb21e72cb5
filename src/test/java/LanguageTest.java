import java.io.IOException;
import java.lang.reflect.Field;
import java.lang.reflect.Method;
import java.lang.reflect.Modifier;
import java.nio.charset.StandardCharsets;
import java.nio.file.Files;
import java.nio.file.Path;
import java.util.regex.Matcher;
import java.util.regex.Pattern;

/** What of ../shared/LANGUAGE.md the source's text and the compiled classes show. It runs in the project's root. */
public final class LanguageTest {
    private static final Path SOURCE = Path.of("src/main/java/CindermapStore.java");
    /** Each with the rule that it is against. */
    private static final String[] FORBIDDEN = {
        "1 \\bpackage\\b", "2 ->", "2 ::", "3 \\bObject\\b", "3 \\bvar\\b", "4 \\bjava\\.(?!util\\.(Arrays|NoSuchElementException);)",
        "4 \\bMath\\.\\w+Exact\\b", "5 \\bstatic\\s*\\{", "6 \\bsynchronized\\b", "6 \\bassert\\b", "6 \\bfinally\\b",
        "6 \\bcatch\\b", "6 \\bhashCode\\b", "6 \\bequals\\b", "6 \\btoString\\b", "6 \\bextends\\s+\\w*Exception\\b",
        "6 throw (?!new (IllegalState|IllegalArgument|IndexOutOfBounds|Arithmetic|UnsupportedOperation|NoSuchElement)Exception\\(\\);)",
        "10 \\+ \"", "13 \\bSystem\\.(?!arraycopy)", "13 \\bThread\\b", "13 \\bRandom\\b",
    };

    public static void main(String[] args) throws IOException {
        String text = Files.readString(SOURCE, StandardCharsets.US_ASCII);
        String code = text.replaceAll("(?s)/\\*.*?\\*/", "").replaceAll("//[^\n]*", "");
        for (String line : FORBIDDEN) {
            int space = line.indexOf(' ');
            Matcher found = Pattern.compile(line.substring(space + 1)).matcher(code);
            if (found.find()) {
                Check.is("rule " + line.substring(0, space), around(code, found.start()), "nothing of the kind");
            }
        }
        staticFieldsAreFinal(code);
        methodsAreShort(text);
        classesAreFew(code);
        membersAreAllowed(CindermapStore.class);
        for (Class<?> inside : CindermapStore.class.getDeclaredClasses()) {
            membersAreAllowed(inside);
        }
        Check.end();
    }

    private static String around(String code, int start) {
        return code.substring(start, Math.min(code.length(), start + 60)).replace('\n', ' ');
    }

    private static void staticFieldsAreFinal(String code) {
        Matcher found = Pattern.compile("\\bstatic (?!final\\b)[\\w\\[\\]<>]+ \\w+\\s*[=;]").matcher(code);
        Check.is("rule 5: a static field that is not final", found.find() ? around(code, found.start()) : "", "");
    }

    private static void methodsAreShort(String text) {
        int start = 0;
        String[] lines = text.split("\n");
        for (int number = 0; number < lines.length; number++) {
            if (lines[number].matches("( {4}| {8})[a-z].*\\(.*") && !lines[number].endsWith(";")) {
                start = number;
            }
            if (lines[number].matches("( {4}| {8})\\}") && number - start > 60) {
                Check.is("rule 11: lines up to " + (number + 1), number - start, "at most 60");
                start = number;
            }
        }
    }

    private static void classesAreFew(String code) {
        Matcher found = Pattern.compile("\\b(class|interface|enum|record) [A-Z]").matcher(code);
        int count = 0;
        while (found.find()) {
            count++;
        }
        Check.is("rule 11: more than twelve classes", count > 12, false);
    }

    private static void membersAreAllowed(Class<?> looked) {
        int fields = 0;
        for (Field field : looked.getDeclaredFields()) {
            boolean isStatic = Modifier.isStatic(field.getModifiers());
            fields += isStatic ? 0 : 1;
            Check.is("rule 3: the type of " + field, isAllowed(field.getType()), true);
            Check.is("rule 5: " + field + " is final or no static", Modifier.isFinal(field.getModifiers()) || !isStatic, true);
        }
        Check.is("rule 11: more than twenty fields of " + looked, fields > 20, false);
        for (Method method : looked.getDeclaredMethods()) {
            Check.is("rule 11: more than seven parameters of " + method, method.getParameterCount() > 7, false);
        }
    }

    private static boolean isAllowed(Class<?> type) {
        Class<?> of = type.isArray() ? type.getComponentType() : type;
        if (of.isArray()) {
            return of.getComponentType().isPrimitive();
        }
        return of.isPrimitive() || of == String.class || of.getEnclosingClass() == CindermapStore.class;
    }
}
