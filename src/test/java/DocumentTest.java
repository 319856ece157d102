import java.io.IOException;
import java.nio.file.DirectoryStream;
import java.nio.file.Files;
import java.nio.file.Path;
import java.util.LinkedHashMap;
import java.util.Map;
import java.util.Set;
import java.util.TreeSet;
import java.util.regex.Matcher;
import java.util.regex.Pattern;

/** Every sentence of the document that says what the board is or does is in Sentence, and has a test that names it. */
public final class DocumentTest {
    private static final Path DOCUMENT = Path.of("../shared/DOC.md");
    private static final Path TESTS = Path.of("src/test/java");

    public static void main(String[] args) throws IOException {
        everySentenceHasATest();
        if (Files.isReadable(DOCUMENT)) {
            Map<String, String> sections = sections();
            faceIsTheDocuments(sections.getOrDefault("The public face", ""));
            everySentenceIsTheDocuments(sections);
        } else {
            System.out.println("no " + DOCUMENT + " here to compare the sentences with");
        }
        Check.finish();
    }

    private static void everySentenceHasATest() throws IOException {
        StringBuilder tests = new StringBuilder();
        try (DirectoryStream<Path> files = Files.newDirectoryStream(TESTS, "*Test.java")) {
            for (Path file : files) {
                tests.append(Files.readString(file));
            }
        }
        for (Sentence s : Sentence.values()) {
            Check.due("tests of " + s, tests.indexOf("Check.of(Sentence." + s + ")") >= 0 ? 1 : 0, 1);
        }
    }

    /** What FaceTest asks of the class is what the document declares. */
    private static void faceIsTheDocuments(String section) {
        Set<String> declared = new TreeSet<>();
        Matcher method = Pattern.compile("public (\\w+ \\w+)\\(([^)]*)\\)(?: throws (\\w+))?;").matcher(section);
        while (method.find()) {
            String types = method.group(2).replaceAll("(\\w+) \\w+", "$1").replace(" ", "");
            String refuses = method.group(3) == null ? "" : " " + method.group(3);
            declared.add(method.group(1) + "(" + types + ")" + refuses);
        }
        Check.due("the document's methods", declared.toString(), new TreeSet<>(FaceTest.FACE).toString());
        Check.due("its constructor", section.contains(" public InvaderBoard();") ? 1 : 0, 1);
        Check.due("its class", section.contains(" public final class InvaderBoard {") ? 1 : 0, 1);
        Check.due("all that it declares", section.split(";").length - 1, declared.size() + 1);
    }

    private static void everySentenceIsTheDocuments(Map<String, String> sections) {
        for (Sentence s : Sentence.values()) {
            String text = sections.getOrDefault(s.section, "");
            int at = text.indexOf(s.words);
            Check.due("words of " + s + " in the document", at >= 0 ? 1 : 0, 1);
            if (at >= 0) {
                sections.put(s.section, text.substring(0, at) + text.substring(at + s.words.length()));
            }
        }
        int promises = 0;
        for (Map.Entry<String, String> section : sections.entrySet()) {
            boolean promise = section.getKey().startsWith("Promise ");
            promises += promise ? 1 : 0;
            if (promise || section.getKey().equals("Terms") || section.getKey().equals("What it is")) {
                String left = section.getValue().replaceFirst("`[^`]*`:", "").trim();
                Check.due("letters of '" + section.getKey() + "' without a sentence: " + left, left.length(), 0);
            }
        }
        Check.due("promises", promises, 13);
    }

    /** The text under each heading, in one line, without the marks of code. */
    private static Map<String, String> sections() throws IOException {
        Map<String, String> sections = new LinkedHashMap<>();
        String heading = "";
        for (String line : Files.readAllLines(DOCUMENT)) {
            if (line.startsWith("## ")) {
                heading = line.substring(3).trim();
            } else if (!line.startsWith("```")) {
                String joined = sections.getOrDefault(heading, "") + " " + line;
                sections.put(heading, joined.replaceAll("\\s+", " "));
            }
        }
        return sections;
    }
}
