import java.io.IOException;
import java.lang.reflect.Field;
import java.lang.reflect.Method;
import java.lang.reflect.Modifier;
import java.nio.file.Files;
import java.nio.file.Path;
import java.util.ArrayList;
import java.util.List;
import java.util.Set;
import java.util.TreeSet;
import java.util.regex.Matcher;
import java.util.regex.Pattern;
import java.util.stream.Collectors;
import java.util.stream.Stream;

/** The public face as the document writes it, and those rules of LANGUAGE.md that can be looked up. */
public final class FaceTest {
    private static final Due due = new Due("FaceTest");
    private static final Path DOCUMENT = Path.of("../shared/DOC.md");
    private static final Path SOURCE = Path.of("src/main/java/UnheardBells.java");

    public static void main(String[] args) throws IOException {
        faceIsThatOfTheDocument();
        nothingElseIsVisible();
        classesInside();
        sourceKeepsToTheLanguage(Files.readString(SOURCE));
        due.end();
    }

    private static void faceIsThatOfTheDocument() throws IOException {
        Set<String> wants = new TreeSet<>();
        Matcher lines = Pattern.compile("(?m)^    (public .*);$").matcher(Files.readString(DOCUMENT));
        while (lines.find()) {
            wants.add(lines.group(1).replaceAll("(\\w+) \\w+(?=[,)])", "$1"));
        }
        Set<String> has = new TreeSet<>();
        has.add("public UnheardBells()");
        Class<?> face = UnheardBells.class;
        Stream.of(face.getDeclaredMethods()).filter(m -> Modifier.isPublic(m.getModifiers())).forEach(m -> has.add(told(m)));
        Stream.of(face.getDeclaredFields()).filter(f -> Modifier.isPublic(f.getModifiers())).forEach(f -> has.add(told(f)));
        due.text("the face", String.join("\n", has), String.join("\n", wants));
        due.that("it is public and final", Modifier.isPublic(face.getModifiers()) && Modifier.isFinal(face.getModifiers()));
        due.is("its constructors", face.getDeclaredConstructors().length, 1);
    }

    private static String told(Method method) {
        String types = Stream.of(method.getParameterTypes()).map(Class::getName).collect(Collectors.joining(", "));
        return "public " + method.getReturnType().getName() + " " + method.getName() + "(" + types + ")";
    }

    private static String told(Field field) {
        try {
            return Modifier.toString(field.getModifiers()) + " int " + field.getName() + " = " + field.getInt(null);
        } catch (IllegalAccessException e) {
            return field.getName() + " cannot be read";
        }
    }

    private static void nothingElseIsVisible() {
        Set<String> publicNames = new TreeSet<>();
        List<Class<?>> all = new ArrayList<>(List.of(UnheardBells.class.getDeclaredClasses()));
        all.add(UnheardBells.class);
        for (Method method : UnheardBells.class.getDeclaredMethods()) {
            boolean isPublic = Modifier.isPublic(method.getModifiers());
            due.that(method + " is public or private", isPublic || Modifier.isPrivate(method.getModifiers()));
            if (isPublic) {
                publicNames.add(method.getName());
            }
        }
        for (Class<?> each : all) {
            for (Method method : each.getDeclaredMethods()) {
                boolean isPublic = Modifier.isPublic(method.getModifiers());
                due.that(method + " has a name of its own", isPublic || !publicNames.contains(method.getName()));
                due.that(method + " has seven parameters at most", method.getParameterCount() <= 7);
            }
        }
        for (Field field : UnheardBells.class.getDeclaredFields()) {
            int its = field.getModifiers();
            due.that(field + " is a constant or private", Modifier.isPrivate(its) || Modifier.isPublic(its));
            due.that(field + " is final if it is static", !Modifier.isStatic(its) || Modifier.isFinal(its));
        }
    }

    private static void classesInside() {
        Class<?>[] inside = UnheardBells.class.getDeclaredClasses();
        due.that("there are twelve classes at most", inside.length < 12);
        for (Class<?> each : inside) {
            due.that(each + " is static", Modifier.isStatic(each.getModifiers()));
            due.that(each + " is not public", !Modifier.isPublic(each.getModifiers()));
            long fields = Stream.of(each.getDeclaredFields()).filter(f -> !Modifier.isStatic(f.getModifiers())).count();
            due.that(each + " has twenty fields at most", fields <= 20);
        }
    }

    private static void sourceKeepsToTheLanguage(String source) {
        String code = source.replaceAll("(?s)/\\*.*?\\*/", "").replaceAll("(?m)//.*$", "");
        for (String word : new String[] {"import", "package", "throw", "try", "catch", "finally", "synchronized",
                "assert", "yield", "var", "instanceof", "toString", "hashCode", "protected", "long", "@"}) {
            String pattern = word.equals("@") ? "(?m)^\\s*@" : "\\b" + word + "\\b";
            due.that("the source is without " + word, !Pattern.compile(pattern).matcher(code).find());
        }
        due.that("the source is without lambdas", !code.contains("->"));
        due.that("the source is without method references", !code.contains("::"));
        due.that("all signs are ASCII", source.chars().allMatch(sign -> sign == '\n' || sign >= 32 && sign < 127));
        Matcher library = Pattern.compile("\\b(System|Math|Integer|Long|Arrays|String)\\.(\\w+)").matcher(code);
        while (library.find()) {
            due.that(library.group() + " is in the language", Set.of("System.arraycopy", "Math.max", "Math.min",
                "Math.floorMod", "Integer.bitCount").contains(library.group()));
        }
        methodsAreShort(code);
    }

    private static void methodsAreShort(String code) {
        Matcher methods = Pattern.compile("(?ms)^( {4}| {8})(?:private |public |static )*\\w[\\w\\[\\]]* \\w+\\([^)]*\\) \\{\n.*?^\\1\\}")
            .matcher(code);
        int found = 0;
        while (methods.find()) {
            found++;
            due.that("sixty lines at most: " + methods.group().split("\n")[0], methods.group().split("\n").length <= 60);
        }
        due.that("methods were found", found > 60);
    }
}
