import java.io.IOException;
import java.nio.file.DirectoryStream;
import java.nio.file.Files;
import java.nio.file.Path;
import java.util.regex.Matcher;
import java.util.regex.Pattern;

/** Every word of the document that tells of a bound stands in some test's Doc.says. Run from the project's root. */
public final class DocumentTest {
    private static final Path TESTS = Path.of("src/test/java");
    private static final Pattern SAYS = Pattern.compile("Doc\\.says\\((\\d+), \"((?:[^\"\\\\]|\\\\.)*)\"\\)");
    /** The refusals and the -9s of a promise. */
    private static final Pattern NUMBERS = Pattern.compile("-\\d+");
    /** What stands ahead of the promises tells of bounds by these words. */
    private static final Pattern BOUNDS = Pattern.compile(
        "\\bat most\\b|\\bat least\\b|\\bat first\\b| \\.\\. \\d|\\bnow or later\\b|\\bfrom now on\\b|\\bno more than\\b|-\\d+"
        + "|\\bby 0\\b|\\btoward 0\\b|\\bonce\\b|\\bof several\\b|\\bof both\\b|\\bby then\\b|\\bthat can not stand\\b"
        + "|\\bif something lacks\\b|\\bits own\\b|\\bno others\\b|\\bnot the same\\b|\\bhowever low\\b|\\bhas not are\\b"
        + "|\\bWithout one\\b|\\bthe first that fits\\b|\\bcounts as done\\b|\\bas its CAP\\b|\\bnothing changes\\b");

    public static void main(String[] args) throws IOException {
        if (!Doc.isThere()) {
            return;
        }
        boolean[][] said = new boolean[Doc.PROMISES + 1][];
        for (int i = 0; i <= Doc.PROMISES; i++) {
            said[i] = new boolean[Doc.section(i).length()];
        }
        try (DirectoryStream<Path> tests = Files.newDirectoryStream(TESTS, "*Test.java")) {
            for (Path test : tests) {
                mark(Files.readString(test), said);
            }
        }
        for (int i = 0; i <= Doc.PROMISES; i++) {
            isSaid(i, said[i]);
        }
        Due.finish();
    }

    private static void mark(String test, boolean[][] said) {
        Matcher m = SAYS.matcher(test);
        while (m.find()) {
            int promise = Integer.parseInt(m.group(1));
            String section = Doc.section(promise);
            String words = m.group(2);
            for (int at = section.indexOf(words); at >= 0; at = section.indexOf(words, at + 1)) {
                java.util.Arrays.fill(said[promise], at, at + words.length(), true);
            }
        }
    }

    private static void isSaid(int promise, boolean[] said) {
        String section = Doc.section(promise);
        Matcher m = (promise == 0 ? BOUNDS : NUMBERS).matcher(section);
        boolean any = false;
        while (m.find()) {
            String around = section.substring(Math.max(0, m.start() - 40), Math.min(section.length(), m.end() + 40));
            Due.isTrue("a test of its own for " + promise + ": .." + around + "..", said[m.start()]);
            any = true;
        }
        if (!any) {
            boolean named = false;
            for (boolean each : said) {
                named |= each;
            }
            Due.isTrue("a test of its own for promise " + promise, named);
        }
    }
}
