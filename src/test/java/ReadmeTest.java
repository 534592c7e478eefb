import java.io.IOException;
import java.nio.file.DirectoryStream;
import java.nio.file.Files;
import java.nio.file.Path;
import java.util.ArrayList;
import java.util.List;
import java.util.regex.Matcher;
import java.util.regex.Pattern;

/** README.md names the class's file and the way to run the tests, and its example does what it says. */
public final class ReadmeTest {
    private static final Path README = Path.of("README.md");
    private static final Path TESTS = Path.of("src/test/java");
    private static final String[] PATHS = {
        "src/main/java/MetroFares.java", "src/test/java", ".ci/run", "../shared/DOC.md", "../shared/LANGUAGE.md",
        "../shared/tests",
    };

    private ReadmeTest() { }

    public static void main(String[] args) throws IOException {
        Check check = new Check();
        check.same("README.md is there", true, Files.isRegularFile(README));
        String text = Files.readString(README);
        checkNames(check, text);
        checkExample(check, text);
        check.finish("ReadmeTest");
    }

    private static void checkNames(Check check, String text) throws IOException {
        for (String path : PATHS) {
            check.same("names " + path, true, text.contains("`" + path + "`"));
            check.same(path + " is there", true, Files.exists(Path.of(path)));
        }
        check.same(".ci/run can be run", true, Files.isExecutable(Path.of(".ci/run")));
        check.same("has a part on use", true, text.contains("\n## Use\n"));
        check.same("has a part on tests", true, text.contains("\n## Tests\n"));
        check.same("tells how to compile", true, text.contains("javac -d out src/main/java/MetroFares.java"));
        try (DirectoryStream<Path> tests = Files.newDirectoryStream(TESTS, "*Test.java")) {
            for (Path test : tests) {
                String name = test.getFileName().toString().replace(".java", "");
                check.same("names " + name, true, text.contains("`" + name + "`"));
            }
        }
    }

    /** The example's code stands below word for word, and each answer told in it is the one that is given. */
    private static void checkExample(Check check, String text) throws IOException {
        String block = text.substring(text.indexOf("```java\n") + "```java\n".length());
        String example = block.substring(0, block.indexOf("```"));
        String source = Files.readString(TESTS.resolve("ReadmeTest.java"));
        check.same("the example is the one that is run", true, withoutComments(source).contains(withoutComments(example)));
        check.same("answers", toldAnswers(example), answersOfExample());
    }

    private static String withoutComments(String code) {
        return code.replaceAll("//.*", "").replaceAll("\\s+", " ");
    }

    private static List<String> toldAnswers(String example) {
        List<String> told = new ArrayList<>();
        Matcher matcher = Pattern.compile("(\\w+) = .*; +// \"?([^\",\n ]+)").matcher(example);
        while (matcher.find()) {
            told.add(matcher.group(1) + " = " + matcher.group(2));
        }
        return told;
    }

    private static List<String> answersOfExample() {
        MetroFares metro = new MetroFares();
        int card = metro.issueCard(false);
        int balance = metro.load(card, 2000);
        metro.tapIn(card, 0);
        metro.advance(20);
        int cents = metro.tapOut(card, 5);
        metro.undo();
        boolean onTrip = metro.isOnTrip(card);

        for (char sign : "out 0 3;wait 10;in 0 3".toCharArray()) {
            metro.type(sign);
        }
        int commands = metro.runScript();
        int start = metro.journeyStart(card);

        int length = metro.renderCard(card);
        StringBuilder text = new StringBuilder();
        for (int i = 0; i < length; i++) {
            text.append(metro.outputAt(i));
        }
        String shown = text.toString();

        return List.of("card = " + card, "balance = " + balance, "cents = " + cents, "onTrip = " + onTrip,
                "commands = " + commands, "start = " + start, "length = " + length, "shown = " + shown);
    }
}
