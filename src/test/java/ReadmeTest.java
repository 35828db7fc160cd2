import java.io.ByteArrayOutputStream;
import java.io.IOException;
import java.io.PrintStream;
import java.lang.reflect.Method;
import java.lang.reflect.Modifier;
import java.nio.charset.StandardCharsets;
import java.nio.file.Files;
import java.nio.file.Path;
import java.util.regex.Matcher;
import java.util.regex.Pattern;

/** README.md: its example runs as it is written there, and it names every call; run from the project's folder. */
public final class ReadmeTest {
    public static void main(String[] args) throws IOException {
        Due due = new Due();
        String readme = Files.readString(Path.of("README.md"));
        example(due, block(readme, "java"), block(readme, "text"));
        calls(due, readme);
        places(due, readme);
        due.end("ReadmeTest");
    }

    private static void example(Due due, String example, String printed) throws IOException {
        String file = Files.readString(Path.of("src/example/java/Example.java"));
        due.holds("the example is the file's", !example.isEmpty() && example.equals(file));
        String[] lines = prints().split("\n");
        String[] written = printed.split("\n");
        due.is("lines that the example prints", lines.length, written.length);
        for (int i = 0; i < lines.length && i < written.length; i++) {
            due.holds("written: " + written[i] + ", printed: " + lines[i], lines[i].equals(written[i]));
        }
    }

    /** What stands in the first fenced block of a kind. */
    private static String block(String readme, String kind) {
        String head = "\n```" + kind + "\n";
        int begin = readme.indexOf(head);
        int end = begin < 0 ? -1 : readme.indexOf("\n```\n", begin + head.length());
        return end < 0 ? "" : readme.substring(begin + head.length(), end + 1);
    }

    private static String prints() {
        PrintStream before = System.out;
        ByteArrayOutputStream bytes = new ByteArrayOutputStream();
        System.setOut(new PrintStream(bytes, true, StandardCharsets.UTF_8));
        try {
            Example.main(new String[0]);
        } finally {
            System.setOut(before);
        }
        return bytes.toString(StandardCharsets.UTF_8).replace("\r", "");
    }

    private static void calls(Due due, String readme) {
        for (Method method : LearnLoans.class.getDeclaredMethods()) {
            if (Modifier.isPublic(method.getModifiers())) {
                String name = method.getName();
                due.is("parameters told of " + name, told(readme, name), method.getParameterCount());
            }
        }
    }

    /** How many parameters the lists of calls tell of one. */
    private static int told(String readme, String name) {
        Matcher found = Pattern.compile("\\| `" + name + "\\(([^)]*)\\)` \\|").matcher(readme);
        if (!found.find()) {
            return -1;
        }
        return found.group(1).isEmpty() ? 0 : found.group(1).split(",").length;
    }

    /** Every path that README.md tells is there. */
    private static void places(Due due, String readme) {
        Matcher found = Pattern.compile("`((?:src/|\\.\\./shared/|\\.ci/|NOTES)[\\w./]*)`").matcher(readme);
        int places = 0;
        while (found.find()) {
            places++;
            due.holds("there is " + found.group(1), Files.exists(Path.of(found.group(1))));
        }
        due.holds("places were found", places >= 5);
        due.holds("the tests' script can be run", Files.isExecutable(Path.of(".ci/run")) && readme.contains("\n.ci/run\n"));
    }
}
