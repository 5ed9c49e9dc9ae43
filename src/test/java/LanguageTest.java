import java.io.IOException;
import java.nio.file.Files;
import java.nio.file.Path;
import java.util.Arrays;
import java.util.List;
import java.util.TreeSet;
import java.util.regex.Matcher;
import java.util.regex.Pattern;

/** The rules of LANGUAGE.md that a look at the source can check. Runs from the project's root. */
public final class LanguageTest {
    private static int wrong;

    public static void main(String[] args) throws IOException {
        String source = Files.readString(Path.of("src/main/java/NorthCurve.java"));
        String code = source.replaceAll("(?s)/\\*.*?\\*/", "").replaceAll("//[^\n]*", "");
        for (char c : source.toCharArray()) check(c == '\n' || c >= 32 && c < 127, "a sign " + (int) c);
        words(code);
        imports(code);
        exceptions(code);
        library(code);
        fields(code);
        methods(code);
        System.out.println(wrong == 0 ? "the language is kept" : wrong + " breaches");
        if (wrong != 0) System.exit(1);
    }

    private static void check(boolean isFine, String what) {
        if (isFine) return;
        wrong++;
        System.out.println("LANGUAGE.md: " + what);
    }

    private static TreeSet<String> all(String code, String pattern) {
        TreeSet<String> found = new TreeSet<>();
        Matcher m = Pattern.compile(pattern, Pattern.MULTILINE).matcher(code);
        while (m.find()) found.add(m.group(1));
        return found;
    }

    private static int howMany(String code, String pattern) {
        int many = 0;
        Matcher m = Pattern.compile(pattern, Pattern.MULTILINE).matcher(code);
        while (m.find()) many++;
        return many;
    }

    private static void words(String code) {
        List<String> not = Arrays.asList("synchronized", "assert", "finally", "double", "float", "record", "volatile", "native", "var", "package",
                "protected", "Object", "System", "Thread", "transient", "strictfp", "yield", "sealed");
        for (String word : not) check(howMany(code, "\\b" + word + "\\b") == 0, "the word " + word);
        check(!code.contains("->"), "a lambda");
        check(!code.contains("::"), "a method reference");
        check(!code.contains("\" +") && !code.contains("+ \""), "texts joined by +");
    }

    private static void imports(String code) {
        TreeSet<String> imports = all(code, "^import ([\\w.*]+);");
        imports.removeAll(Arrays.asList("java.util.NoSuchElementException", "java.util.Arrays", "java.util.ArrayList", "java.util.List"));
        check(imports.isEmpty(), "imports " + imports);
        check(!code.replaceAll("(?m)^import .*$", "").contains("java."), "a library's name in full");
    }

    private static void exceptions(String code) {
        check(howMany(code, "\\bcatch\\b") == 0, "a catch");
        check(all(code, "throw ([^;]*);").equals(new TreeSet<>(List.of("new NoSuchElementException()"))), "a throw");
    }

    private static void library(String code) {
        TreeSet<String> used = all(code, "\\b((?:Math|Arrays|Integer|Long)\\.\\w+)");
        used.removeAll(Arrays.asList("Math.max", "Math.min", "Arrays.fill", "Arrays.copyOf"));
        check(used.isEmpty(), "library " + used);
    }

    private static void fields(String code) {
        int classes = howMany(code, "\\bclass \\w+");
        check(classes <= 12, classes + " classes");
        check(howMany(code, "^ {4}private static final class ") == classes - 1, "a class inside that isn't private, static and final");
        check(howMany(code, "^ +(?:private |public )?static (?!final )\\w+(?:\\[\\])? \\w+(?: =|;)") == 0, "a static field that isn't final");
        check(howMany(code, "^\\s*static \\{") == 0, "a static initialiser block");
        check(all(code, "^ {4}public static final int (\\w+)").equals(new TreeSet<>(List.of("NONE", "LOST"))), "public constants");
        check(howMany(code, "^ {4}(?!public |private |\\}|@)\\S") == 0, "a member of the class that is neither public nor private");
        for (String part : code.split("(?m)^    private static final class ")) {
            int fields = howMany(part, "^ +(?:private )?(?:final )?(?!return|static)[A-Z]?\\w+(?:\\[\\])? \\w+(?: = [^;]*)?;$")
                    - howMany(part, "^ {8}(?: {4})+\\S.*;$");
            check(fields <= 20, fields + " fields in " + part.substring(0, 20));
        }
    }

    private static void methods(String code) {
        String[] lines = code.split("\n");
        Pattern head = Pattern.compile("^( {4}| {8})(?:(?:public|private|static|final) )*(?:[\\w\\[\\]]+ )?\\w+\\(([^)]*)\\)(?: throws \\w+)? \\{$");
        for (int k = 0; k < lines.length; k++) {
            Matcher m = head.matcher(lines[k]);
            if (!m.matches() || lines[k].trim().startsWith("if")) continue;
            check(m.group(2).split(",").length <= 7, "more than seven parameters: " + lines[k].trim());
            int end = k;
            while (end < lines.length && !lines[end].equals(m.group(1) + "}")) end++;
            check(end - k <= 60, "a long method: " + lines[k].trim());
        }
    }
}
