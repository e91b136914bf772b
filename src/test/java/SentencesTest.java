import java.io.IOException;
import java.nio.file.DirectoryStream;
import java.nio.file.Files;
import java.nio.file.Path;
import java.util.ArrayList;
import java.util.LinkedHashMap;
import java.util.List;
import java.util.Map;

/** Each sentence of "Terms" and of the promises is quoted in Sentence, and named by a test. */
public final class SentencesTest {
    private static final Checks CHECKS = new Checks("SentencesTest");
    private static final Path DOCUMENT = Path.of("..", "shared", "DOC.md");
    private static final Path TESTS = Path.of("src", "test", "java");

    public static void main(String[] args) throws IOException {
        eachIsNamedByATest();
        if (Files.exists(DOCUMENT)) {
            noneIsMissing(sectionsOf(Files.readAllLines(DOCUMENT)));
        } else {
            System.out.println("SentencesTest: " + DOCUMENT + " is not there to be compared");
        }
        CHECKS.end();
    }

    private static void eachIsNamedByATest() throws IOException {
        StringBuilder tests = new StringBuilder();
        try (DirectoryStream<Path> files = Files.newDirectoryStream(TESTS, "*Test.java")) {
            for (Path file : files) {
                tests.append(Files.readString(file));
            }
        }
        for (Sentence sentence : Sentence.values()) {
            boolean named = tests.indexOf("CHECKS.sentence(Sentence." + sentence.name() + ");") >= 0;
            CHECKS.due("a test names " + sentence, true, named);
        }
    }

    /** The text under each heading, with one space wherever there is any, and without fences. */
    private static Map<String, String> sectionsOf(List<String> lines) {
        Map<String, String> sections = new LinkedHashMap<>();
        String heading = "";
        for (String line : lines) {
            if (line.startsWith("## ")) {
                heading = line.substring(3);
            } else if (!line.startsWith("```")) {
                String before = sections.getOrDefault(heading, "");
                sections.put(heading, (before + " " + line).replaceAll("\\s+", " ").strip());
            }
        }
        return sections;
    }

    private static void noneIsMissing(Map<String, String> sections) {
        CHECKS.due("'What it is' says " + Sentence.USED_FOR, true,
            sections.getOrDefault("What it is", "").contains(Sentence.USED_FOR.text));
        int compared = 0;
        for (Map.Entry<String, String> section : sections.entrySet()) {
            String heading = section.getKey();
            if (heading.equals("Terms") || heading.startsWith("Promise ")) {
                compared++;
                same(heading, section.getValue(), quotedOf(heading));
            }
        }
        CHECKS.due("sections", 11, compared);
    }

    private static String quotedOf(String heading) {
        List<String> quoted = new ArrayList<>();
        for (Sentence sentence : Sentence.values()) {
            if (sentence.section.equals(heading)) {
                quoted.add(sentence.text);
            }
        }
        return String.join(" ", quoted);
    }

    private static void same(String heading, String said, String quoted) {
        int i = 0;
        while (i < said.length() && i < quoted.length() && said.charAt(i) == quoted.charAt(i)) {
            i++;
        }
        if (!said.equals(quoted)) {
            System.out.println("SentencesTest: the document goes on with " + said.substring(i));
        }
        CHECKS.due("'" + heading + "' is quoted word by word", true, said.equals(quoted));
    }
}
