import java.io.IOException;
import java.nio.file.Files;
import java.nio.file.Path;
import java.util.List;
import java.util.regex.Matcher;
import java.util.regex.Pattern;

/**
 * Writes the test program ReadmeShown, which makes the calls that a page shows and compares what they answer with what
 * the page shows. It is compiled, so that the examples are also known to be Java as they stand.
 */
public final class ReadmeExamples {
    /** A declaration or a call, with what is shown behind it. */
    private static final Pattern SHOWN = Pattern.compile("(?:int (\\w+) = )?(.*?);\\s*// (.*)");

    private final StringBuilder program = new StringBuilder();
    private int calls = 0;

    private void add(String line) {
        program.append(line).append('\n');
    }

    private static String quoted(String text) {
        return "\"" + text.replace("\\", "\\\\").replace("\"", "\\\"") + "\"";
    }

    /** What the page shows as the answer: what stands ahead of the first colon, a character without its signs. */
    private static String answerIn(String comment) {
        String answer = comment.split(":")[0].strip();
        return answer.matches("'.'") ? answer.substring(1, 2) : answer;
    }

    private void addStatement(int number, String line) {
        Matcher matcher = SHOWN.matcher(line);
        if (!matcher.matches()) {
            add(line);
            return;
        }
        calls++;
        String name = matcher.group(1);
        String call = matcher.group(2);
        String asked = name == null ? call : name;
        if (name != null) {
            add("int " + name + " = " + call + ";");
        }
        add("ReadmeExamples.due(" + number + ", () -> String.valueOf(" + asked + "), "
                + quoted(answerIn(matcher.group(3))) + ");");
    }

    private String programFor(List<String> page) {
        add("public final class ReadmeShown {");
        add("public static void main(String[] args) {");
        boolean isExample = false;
        for (int index = 0; index < page.size(); index++) {
            String line = page.get(index).strip();
            if (line.startsWith("```")) {
                isExample = line.equals("```java");
            } else if (isExample) {
                addStatement(index + 1, line);
            }
        }
        add("ReadmeExamples.report(" + calls + ");");
        add("}");
        add("}");
        return program.toString();
    }

    // What the program that is written calls

    interface Call {
        String answer();
    }

    private static int looked = 0;
    private static int wrong = 0;

    static void due(int line, Call call, String want) {
        looked++;
        String got;
        try {
            got = call.answer();
        } catch (RuntimeException e) {
            got = "throws " + e.getClass().getSimpleName();
        }
        if (!got.equals(want)) {
            wrong++;
            System.out.println("README.md, line " + line + ": shown is " + want + ", the class answers " + got);
        }
    }

    /** Without an example the page shows nothing, and something went wrong with reading it. */
    static void report(int calls) {
        System.out.println(looked + " answers shown, " + wrong + " of them wrong");
        if (wrong != 0 || looked != calls || calls == 0) {
            System.exit(1);
        }
    }

    public static void main(String[] args) throws IOException {
        System.out.print(new ReadmeExamples().programFor(Files.readAllLines(Path.of(args[0]))));
    }
}
