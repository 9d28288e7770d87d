import java.io.IOException;
import java.lang.reflect.Method;
import java.lang.reflect.Modifier;
import java.nio.file.Files;
import java.nio.file.Path;
import java.util.Arrays;
import java.util.HashSet;
import java.util.Set;
import java.util.TreeSet;
import java.util.regex.Matcher;
import java.util.regex.Pattern;
import java.util.stream.Collectors;

/** The document's face, and those rules of LANGUAGE.md that can be seen from outside. */
public final class LanguageTest {
    private static final Path PROGRAM = Path.of("src/main/java/Spellreform.java");
    private static final Path DOCUMENT = Path.of("../shared/DOC.md");

    public static void main(String[] args) throws IOException {
        face();
        hiddenMembers();
        words();
        Check.end("LanguageTest");
    }

    /** Each method line of the document's face, without the names of the arguments. */
    private static void face() throws IOException {
        Set<String> due = new TreeSet<>();
        for (String line : Files.readAllLines(DOCUMENT)) {
            Matcher method = Pattern.compile("    public (\\w+ \\w+)\\((.*)\\)( throws (.*))?;")
                    .matcher(line);
            if (method.matches()) {
                String types = method.group(2).replaceAll(" \\w+(, |$)", " ").trim();
                String thrown = method.group(4) == null ? "" : method.group(4).replace(",", "");
                due.add(method.group(1) + "(" + types + ") " + thrown);
            }
        }
        Set<String> got = new TreeSet<>();
        for (Method method : Spellreform.class.getDeclaredMethods()) {
            if (Modifier.isPublic(method.getModifiers()) && !method.isSynthetic()) {
                got.add(method.getReturnType() + " " + method.getName() + "("
                        + names(method.getParameterTypes()) + ") "
                        + names(method.getExceptionTypes()));
            }
        }
        Check.is("methods of the face", due.size(), 48);
        Check.isText("face", String.join("\n", got), String.join("\n", due));
        Check.is("public constructors", Spellreform.class.getConstructors().length, 1);
        Check.is("constructors", Spellreform.class.getDeclaredConstructors().length, 1);
        Check.is("final", Modifier.isFinal(Spellreform.class.getModifiers()), true);
    }

    private static String names(Class<?>[] types) {
        return Arrays.stream(types).map(Class::getSimpleName).collect(Collectors.joining(" "));
    }

    private static void hiddenMembers() {
        Set<String> shown = new HashSet<>();
        for (Method method : Spellreform.class.getDeclaredMethods()) {
            if (Modifier.isPublic(method.getModifiers())) {
                Check.is("overloaded: " + method.getName(), shown.add(method.getName()), true);
            }
        }
        for (Method method : Spellreform.class.getDeclaredMethods()) {
            if (!Modifier.isPublic(method.getModifiers())) {
                Check.is("private: " + method.getName(),
                        Modifier.isPrivate(method.getModifiers()) && !shown.contains(method.getName()),
                        true);
            }
            Check.is("arguments: " + method.getName(), method.getParameterCount() <= 7, true);
        }
        for (var field : Spellreform.class.getDeclaredFields()) {
            int modifiers = field.getModifiers();
            Check.is("field: " + field.getName(), Modifier.isPrivate(modifiers)
                    && (!Modifier.isStatic(modifiers) || Modifier.isFinal(modifiers)), true);
        }
        for (Class<?> inside : Spellreform.class.getDeclaredClasses()) {
            int modifiers = inside.getModifiers();
            Check.is("class: " + inside.getSimpleName(), Modifier.isStatic(modifiers)
                    && !Modifier.isPublic(modifiers) && !Modifier.isProtected(modifiers), true);
            for (Method method : inside.getDeclaredMethods()) {
                Check.is("a name of the face: " + inside.getSimpleName() + "." + method.getName(),
                        shown.contains(method.getName()), false);
            }
        }
        Check.is("classes", Spellreform.class.getDeclaredClasses().length <= 12, true);
    }

    private static void words() throws IOException {
        String text = Files.readString(PROGRAM);
        String code = text.replaceAll("(?s)/\\*.*?\\*/", "").replaceAll("//.*", "")
                .replaceAll("\"[^\"\n]*\"", "\"\"");
        String[] ruledOut = {"->", "::", "\\bfinally\\b", "\\bsynchronized\\b", "\\bassert\\b",
            "\\bcatch\\b", "\\bpackage\\b", "\\bvolatile\\b", "\\bobject\\b", "\\bMath\\.\\w+Exact",
            "static\\s*\\{", "\\bThread\\b", "\\bSystem\\.(?!arraycopy)", "\"\"\\s*\\+", "\\+\\s*\"\""};
        for (String wrong : ruledOut) {
            Check.is("ruled out: " + wrong, Pattern.compile(wrong).matcher(code).find(), false);
        }
        Matcher imports = Pattern.compile("import ([\\w.]+);").matcher(code);
        while (imports.find()) {
            Check.is("import " + imports.group(1), Set.of("java.util.ArrayList",
                    "java.util.NoSuchElementException").contains(imports.group(1)), true);
        }
        for (char sign : text.toCharArray()) {
            if (sign > 126) {
                Check.fail("a sign above 126: " + (int) sign);
            }
        }
    }
}
