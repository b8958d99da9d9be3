import java.lang.reflect.Field;
import java.lang.reflect.Method;
import java.lang.reflect.Modifier;
import java.nio.charset.StandardCharsets;
import java.nio.file.Files;
import java.nio.file.Path;
import java.util.regex.Matcher;
import java.util.regex.Pattern;

/** Those rules of ../shared/LANGUAGE.md that can be seen in the words of the source. */
final class LanguageTest {
    private static final String[] FORBIDDEN = {
        "\\b(throw|throws|try|catch|finally|synchronized|assert|package|volatile|transient|native|yield|var)\\b",
        "->", "::", "\\bException\\b", "\\bString\\b", "\\bSystem\\.(out|err|in|exit|currentTimeMillis|nanoTime)\\b",
        "\\b(equals|hashCode|toString)\\b", "\\binstanceof\\b", "\\bprotected\\b", "\\bwhile\\b", "\\w+Exact\\b",
        "\\bObject\\b", "\\[\\s*\\]\\s*\\[", "(?m)^import\\b", "\\bstatic\\s*\\{"
    };

    private LanguageTest() {
    }

    static void run(Path source) throws Exception {
        String all = new String(Files.readAllBytes(source), StandardCharsets.ISO_8859_1);
        String code = withoutComments(all);
        for (String word : FORBIDDEN) {
            Matcher found = Pattern.compile(word).matcher(code);
            Due.isTrue("the source is without " + word, !found.find());
        }
        signsAreAscii(all);
        staticFieldsAreFinal(code);
        methodsAreShort(code);
        sizesAreSmall(GrayPointers.class);
        Class<?>[] inside = GrayPointers.class.getDeclaredClasses();
        Due.isTrue("at most 12 classes: " + inside.length, inside.length < 12);
        for (Class<?> one : inside) {
            sizesAreSmall(one);
            Due.isTrue(one + " is static", Modifier.isStatic(one.getModifiers()));
        }
    }

    private static void sizesAreSmall(Class<?> one) {
        int fields = 0;
        for (Field field : one.getDeclaredFields()) {
            boolean ofTheClass = Modifier.isStatic(field.getModifiers());
            fields += ofTheClass ? 0 : 1;
            Due.isTrue(field + " is final if static", !ofTheClass || Modifier.isFinal(field.getModifiers()));
        }
        Due.isTrue(one + " has at most 20 fields: " + fields, fields <= 20);
        for (Method method : one.getDeclaredMethods()) {
            Due.isTrue(method + " takes at most 7", method.getParameterCount() <= 7);
        }
    }

    private static String withoutComments(String source) {
        return source.replaceAll("(?s)/\\*.*?\\*/", " ").replaceAll("//[^\n]*", " ");
    }

    private static void signsAreAscii(String source) {
        boolean so = source.chars().allMatch(c -> c == '\n' || c >= 32 && c < 127);
        Due.isTrue("the source has the signs 32 to 126 alone", so);
    }

    private static void staticFieldsAreFinal(String code) {
        Matcher found = Pattern.compile("\\bstatic\\s+(?!final\\b)[\\w\\[\\]]+\\s+\\w+\\s*[=;]").matcher(code);
        Due.isTrue("static fields are final", !found.find());
    }

    private static void methodsAreShort(String code) {
        int open = -1;
        String[] lines = code.split("\n");
        for (int i = 0; i < lines.length; i++) {
            if (lines[i].matches(" {4}( {4})?[^ ].*\\) \\{")) {
                open = i;
            } else if (open >= 0 && lines[i].matches(" {4}( {4})?\\}")) {
                Due.isTrue("the method at line " + (open + 1) + " has at most 60 lines", i - open < 60);
                open = -1;
            }
        }
    }
}
