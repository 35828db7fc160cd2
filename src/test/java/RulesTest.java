import java.io.IOException;
import java.nio.file.Files;
import java.nio.file.Path;
import java.util.List;
import java.util.regex.Matcher;
import java.util.regex.Pattern;

/** What of ../shared/LANGUAGE.md can be seen in the text of the class; run from the project's folder. */
public final class RulesTest {
    private static final List<String> NEVER = List.of(
        "\\bthrow\\b", "\\bthrows\\b", "\\btry\\b", "\\bcatch\\b", "\\bsynchronized\\b", "\\bassert\\b", "->", "::",
        "\\bpackage\\b", "Exact\\b", "\\binstanceof\\b", "\\bvar\\b", "\\bvolatile\\b", "\\btransient\\b",
        "\\bprotected\\b", "\\bnative\\b", "\\bRandom\\b", "\\bThread\\b", "\\bgetClass\\b", "\\bequals\\b",
        "\\bhashCode\\b", "\\btoString\\b", "\\bnanoTime\\b", "\\bcurrentTimeMillis\\b", "\\bOptional\\b", "\\bMap\\b",
        "@", "\\bMAX_VALUE\\b", "\\bMIN_VALUE\\b", "\\bObject\\b");

    public static void main(String[] args) throws IOException {
        Due due = new Due();
        String source = Files.readString(Path.of("src/main/java/LearnLoans.java"));
        for (int i = 0; i < source.length(); i++) {
            if (source.charAt(i) > 126) {
                due.is("a sign above 126 at " + i, source.charAt(i), 0);
            }
        }
        String plain = source.replaceAll("(?s)/\\*.*?\\*/", "").replaceAll("//[^\n]*", "")
            .replaceAll("'.'", "'x'");
        for (String never : NEVER) {
            Matcher found = Pattern.compile(never).matcher(plain);
            due.holds("no " + never, !found.find());
        }
        imports(due, plain);
        methods(due, plain);
        statics(due, plain);
        due.end("RulesTest");
    }

    private static void imports(Due due, String plain) {
        Matcher found = Pattern.compile("import ([^;]*);").matcher(plain);
        while (found.find()) {
            due.holds("import " + found.group(1),
                List.of("java.util.Arrays", "java.util.ArrayList", "java.util.List").contains(found.group(1)));
        }
        Matcher used = Pattern.compile("\\b([A-Z][a-z]\\w*)\\.").matcher(plain);
        while (used.find()) {
            due.holds("library " + used.group(1), List.of("Math", "Arrays", "System").contains(used.group(1)));
        }
    }

    private static void methods(Due due, String plain) {
        Pattern head = Pattern.compile("(?m)^( +)(?:[\\w\\[\\]]+ )*(\\w+)\\(([^()]*)\\) \\{$");
        Matcher found = head.matcher(plain);
        int methods = 0;
        while (found.find()) {
            if (List.of("if", "for", "while", "switch").contains(found.group(2))) {
                continue;
            }
            methods++;
            int end = plain.indexOf("\n" + found.group(1) + "}\n", found.end());
            long lines = plain.substring(found.start(), end).lines().count();
            due.holds("short: " + found.group(2) + " has " + lines + " lines", lines <= 60);
            due.holds("parameters of " + found.group(2), found.group(3).split(",").length <= 7);
        }
        due.holds("methods were found: " + methods, methods > 80);
    }

    private static void statics(Due due, String plain) {
        Matcher found = Pattern.compile("(?m)^ +(?:public |private )?static (?!final)[^(]*;").matcher(plain);
        due.holds("every static field is final", !found.find());
        due.holds("no static block", !plain.contains("static {"));
    }
}
