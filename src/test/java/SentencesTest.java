import java.io.IOException;
import java.nio.file.DirectoryStream;
import java.nio.file.Files;
import java.nio.file.Path;
import java.util.regex.Matcher;
import java.util.regex.Pattern;

/** Looks up in ../shared/DOC.md the words that each method of the *BoundsTests begins with. */
public final class SentencesTest {
    private static final Pattern TEXT = Pattern.compile("\"((?:[^\"\\\\]|\\\\.)*)\"");
    private static final Pattern SENTENCE = Pattern.compile("Check\\.sentence\\(((?:\\s*\\+?\\s*" + TEXT.pattern() + ")+)\\)");

    public static void main(String[] args) throws IOException {
        String document = inOneLine(Files.readString(Path.of("../shared/DOC.md")));
        int found = 0;
        try (DirectoryStream<Path> tests = Files.newDirectoryStream(Path.of("src/test/java"), "*BoundsTest.java")) {
            for (Path test : tests) {
                found += lookUp(test.getFileName().toString(), Files.readString(test), document);
            }
        }
        Check.due("sentences looked up", found > 0, true);
        Check.end();
    }

    private static int lookUp(String name, String test, String document) {
        int found = 0;
        Matcher sentence = SENTENCE.matcher(test);
        while (sentence.find()) {
            String words = inOneLine(joined(sentence.group(1)));
            Check.due(name + ": the document says \"" + words + "\"", document.contains(words), true);
            found++;
        }
        Check.due(name + ": sentences that can be read", found, test.split("Check\\.sentence\\(", -1).length - 1);
        return found;
    }

    private static String joined(String texts) {
        StringBuilder joined = new StringBuilder();
        Matcher text = TEXT.matcher(texts);
        while (text.find()) {
            joined.append(text.group(1).translateEscapes());
        }
        return joined.toString();
    }

    private static String inOneLine(String text) {
        return text.replaceAll("\\s+", " ");
    }
}
