import java.io.IOException;
import java.nio.file.Files;
import java.nio.file.Path;
import java.util.ArrayList;
import java.util.List;
import java.util.Set;
import java.util.TreeSet;
import java.util.regex.Matcher;
import java.util.regex.Pattern;

/** Those rules of LANGUAGE.md that can be seen from the text of the class. Run from the project's root. */
public final class LanguageTest {
    private static final Path SOURCE = Path.of("src/main/java/SwitchSeven.java");
    private static final Pattern METHOD =
        Pattern.compile("^( +)(public|private|static|final| )*[\\w<>\\[\\]]+ (\\w+)\\((.*)\\) \\{$");

    public static void main(String[] args) throws IOException {
        String text = Files.readString(SOURCE);
        String code = text.replaceAll("(?s)/\\*.*?\\*/", "").replaceAll("//[^\\n]*", "").replaceAll("\"[^\"\\n]*\"", "\"\"");
        words(code);
        imports(code);
        members(code);
        methods(code.split("\n"));
        nestedClasses();
        Due.finish();
    }

    private static void words(String code) {
        String[] barred = {"throw", "throws", "try", "catch", "finally", "synchronized", "assert", "protected", "record",
            "hashCode", "toString", "System", "Thread", "Exception", "Override", "var", "->", "::", "Object", "native"};
        for (String word : barred) {
            String pattern = Character.isLetter(word.charAt(0)) ? "\\b" + word + "\\b" : Pattern.quote(word);
            Due.isTrue("no " + word, !Pattern.compile(pattern).matcher(code).find());
        }
        Due.isTrue("no package line", !code.contains("package "));
        Due.isTrue("plain signs alone", code.chars().allMatch(c -> c == 10 || c >= 32 && c < 127));
    }

    private static void imports(String code) {
        Matcher m = Pattern.compile("import ([\\w.]+);").matcher(code);
        while (m.find()) {
            Due.isTrue("import of " + m.group(1), Set.of("java.util.ArrayList", "java.util.Arrays").contains(m.group(1)));
        }
    }

    /** Every member of the class is private or of the document's face; none of its names is used twice. */
    private static void members(String code) {
        List<String> face = new ArrayList<>();
        Set<String> others = new TreeSet<>();
        for (String line : code.split("\n")) {
            Matcher m = METHOD.matcher(line);
            if (line.startsWith("    ") && !line.startsWith("     ") && !line.isBlank() && !line.equals("    }")) {
                Due.isTrue("private or public: " + line, line.startsWith("    private ") || line.startsWith("    public "));
            }
            if (m.matches() && line.startsWith("    public ") && !m.group(3).equals("SwitchSeven")) {
                face.add(m.group(3));
            } else if (m.matches()) {
                others.add(m.group(3));
            }
        }
        Due.is("methods of the face", face.size(), 33);
        for (String name : face) {
            Due.isTrue("no other method is named " + name, !others.contains(name));
        }
        Due.is("members of the face at run time", SwitchSeven.class.getMethods().length
            - Object.class.getMethods().length, 33);
        Due.is("public fields", SwitchSeven.class.getFields().length, 0);
        Due.is("constructors", SwitchSeven.class.getDeclaredConstructors().length, 1);
    }

    private static void methods(String[] lines) {
        for (int i = 0; i < lines.length; i++) {
            Matcher m = METHOD.matcher(lines[i]);
            if (m.matches()) {
                int end = i;
                while (!lines[end].equals(m.group(1) + "}")) {
                    end++;
                }
                Due.isTrue(m.group(3) + " is short", end - i <= 60);
                Due.isTrue(m.group(3) + " has few parameters", m.group(4).split(",").length <= 7);
            }
            Due.isTrue("no while: its end must be seen in line " + (i + 1), !lines[i].matches(".*\\b(while|do)\\b.*"));
        }
    }

    private static void nestedClasses() {
        Class<?>[] inside = SwitchSeven.class.getDeclaredClasses();
        Due.isTrue("at most twelve classes", inside.length + 1 <= 12);
        for (Class<?> c : inside) {
            int mods = c.getModifiers();
            Due.isTrue(c + " is static", java.lang.reflect.Modifier.isStatic(mods));
            int fields = 0;
            for (java.lang.reflect.Field f : c.getDeclaredFields()) {
                boolean isStatic = java.lang.reflect.Modifier.isStatic(f.getModifiers());
                fields += isStatic ? 0 : 1;
                Due.isTrue(f + " is final", !isStatic || java.lang.reflect.Modifier.isFinal(f.getModifiers()));
            }
            Due.isTrue(c + " has few fields", fields <= 20);
        }
    }
}
