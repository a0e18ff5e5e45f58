import java.io.IOException;
import java.lang.reflect.Executable;
import java.lang.reflect.Field;
import java.lang.reflect.Modifier;
import java.nio.file.Files;
import java.nio.file.Path;
import java.util.ArrayList;
import java.util.List;
import java.util.regex.Matcher;
import java.util.regex.Pattern;

/** What can be counted or searched of the rules of LANGUAGE.md; the face itself is FaceTest's. */
public final class FormTest {
    private static final Path SOURCE = Path.of("src/main/java/TideVault.java");
    private static final List<String> IMPORTS = List.of("import java.util.NoSuchElementException;",
            "import java.util.ArrayList;", "import java.util.List;", "import java.util.Iterator;", "import java.util.Arrays;");
    private static final List<String> CONSTANT_TYPES = List.of("int", "long", "boolean", "char", "class java.lang.String",
            "class [I", "class [J", "class [C", "class [B");
    private static final String EXCEPTIONS = "IllegalState|IllegalArgument|IndexOutOfBounds|Arithmetic"
            + "|UnsupportedOperation|NoSuchElement|Runtime";
    /** What the rules rule out, and what the class has no need of. */
    private static final String OUTSIDE = "->|::|@|\\b(?:package|finally|synchronized|assert|volatile|transient"
            + "|native|catch|protected|getClass|hashCode|equals|toString|NaN|floor|sqrt|round|\\w+Exact)\\b";
    private static final String LIBRARY = "\\b(?:System|Math|Integer|Long|Arrays|String|Character|Object|Thread)\\.\\w+";
    private static final List<String> ALLOWED = List.of("System.arraycopy", "Math.min", "Math.max", "Math.abs",
            "Math.floorMod", "Math.floorDiv", "Arrays.fill", "Arrays.copyOf", "Arrays.copyOfRange");

    private static final int FEWEST_METHODS = 49;

    private static final List<Class<?>> CLASSES = new ArrayList<>();

    public static void main(String[] args) throws IOException {
        String source = Files.readString(SOURCE);
        String code = source.replaceAll("(?s)/\\*.*?\\*/|//[^\n]*", "");
        String bare = code.replaceAll("\"[^\"\n]*\"", "\"\"");
        collect(TideVault.class);
        classes();
        constants();
        imports(code);
        words(source, bare);
        exceptions(code);
        lengths(bare);
        Expect.finish();
    }

    private static void collect(Class<?> type) {
        CLASSES.add(type);
        for (Class<?> inside : type.getDeclaredClasses()) {
            collect(inside);
        }
    }

    private static void rule(String number, String what, boolean holds) {
        Expect.promise(1, "rule " + number + " of LANGUAGE.md: " + what);
        Expect.due(true, holds);
    }

    private static void classes() {
        rule("11", "at most 12 classes", CLASSES.size() <= 12);
        for (Class<?> type : CLASSES) {
            int modifiers = type.getModifiers();
            boolean isInside = type != TideVault.class;
            rule("1", type + " is static and not public", !isInside || Modifier.isStatic(modifiers)
                    && !Modifier.isPublic(modifiers) && !Modifier.isProtected(modifiers));
            int fields = 0;
            for (Field field : type.getDeclaredFields()) {
                fields += Modifier.isStatic(field.getModifiers()) ? 0 : 1;
            }
            rule("11", "at most 20 fields in " + type, fields <= 20);
            List<Executable> members = new ArrayList<>(List.of(type.getDeclaredMethods()));
            members.addAll(List.of(type.getDeclaredConstructors()));
            for (Executable member : members) {
                rule("11", "at most 7 parameters of " + member, member.getParameterCount() <= 7);
                rule("2", "no lambda in " + member, !member.isSynthetic());
            }
        }
    }

    private static void constants() {
        for (Class<?> type : CLASSES) {
            for (Field field : type.getDeclaredFields()) {
                if (Modifier.isStatic(field.getModifiers())) {
                    rule("5", field + " is a constant", Modifier.isFinal(field.getModifiers())
                            && CONSTANT_TYPES.contains(field.getType().toString()));
                }
            }
        }
    }

    private static void imports(String code) {
        Matcher matcher = Pattern.compile("(?m)^import .*$").matcher(code);
        while (matcher.find()) {
            rule("4", matcher.group(), IMPORTS.contains(matcher.group().trim()));
        }
    }

    private static void words(String source, String bare) {
        rule("4", "signs from 1 to 127 alone", source.chars().allMatch(sign -> sign >= 1 && sign <= 127));
        Matcher outside = Pattern.compile(OUTSIDE).matcher(bare);
        while (outside.find()) {
            rule("2, 3, 4 or 6", outside.group() + " is not used", false);
        }
        Matcher library = Pattern.compile(LIBRARY).matcher(bare);
        while (library.find()) {
            rule("4", library.group() + " is of the library that is allowed", ALLOWED.contains(library.group()));
        }
        rule("10", "no text is joined by +", !Pattern.compile("\"\"\\s*\\+|\\+\\s*\"\"").matcher(bare).find());
    }

    private static void exceptions(String code) {
        Pattern form = Pattern.compile("throw new (?:" + EXCEPTIONS + ")Exception\\((?:\"[^\"]*\")?\\);");
        Matcher matcher = Pattern.compile("\\bthrow\\b[^;]*;").matcher(code);
        int found = 0;
        while (matcher.find()) {
            found++;
            rule("6", matcher.group(), form.matcher(matcher.group()).matches());
        }
        rule("6", "there are throw statements", found > 0);
    }

    /** Methods stand 4 or 8 blanks deep, and so do the braces that end them. */
    private static void lengths(String bare) {
        Pattern head = Pattern.compile("(?: {4}| {8})(?!return)(?:[a-z]+ )*[\\w\\[\\]]+ ?\\w+\\(.*[^;]");
        String method = "";
        int length = 0;
        int found = 0;
        for (String line : bare.split("\n")) {
            if (head.matcher(line).matches()) {
                method = line;
                length = 0;
                found++;
            }
            length++;
            if (!method.isEmpty() && line.equals(method.replaceAll("\\S.*", "}"))) {
                rule("11", "at most 60 lines in " + method.trim(), length <= 60);
                method = "";
            }
        }
        rule("11", "the methods were found", found > FEWEST_METHODS);
    }
}
