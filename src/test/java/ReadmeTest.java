import java.io.IOException;
import java.nio.charset.StandardCharsets;
import java.nio.file.Files;
import java.nio.file.Path;
import java.util.ArrayList;
import java.util.List;
import java.util.regex.Matcher;
import java.util.regex.Pattern;

/** README.md's calls answer what stands behind them, its example prints what it says, its commands name files that are there. */
public final class ReadmeTest {
    private static final Due DUE = new Due("ReadmeTest");
    private static final Pattern CALL = Pattern.compile("(x\\.(\\w+)\\(.*\\)); *// (-?[0-9]+)");

    public static void main(String[] args) throws IOException, InterruptedException {
        String text = Files.readString(Path.of("README.md"));
        List<String> code = blocks(text, "java");
        List<String> printed = blocks(text, "text");
        DUE.is("blocks of code, and of what is printed", code.size() * 10 + printed.size(), 21);
        if (code.size() == 2 && printed.size() == 1) {
            answers(code.get(0));
            sameLines("the example", printOf("Example", code.get(1)), printed.get(0));
        }
        for (String call : new String[] {"feed", "end", "works", "fault"}) {
            DUE.is("README.md tells of " + call, text.contains("`" + call + "(") ? 1 : 0, 1);
        }
        commands(text);
        DUE.end();
    }

    private static List<String> blocks(String text, String kind) {
        List<String> all = new ArrayList<>();
        Matcher m = Pattern.compile("(?s)```" + kind + "\n(.*?)```").matcher(text);
        while (m.find()) {
            all.add(m.group(1));
        }
        return all;
    }

    /** Each call with a number behind it becomes one that prints its answer. */
    private static void answers(String calls) throws IOException, InterruptedException {
        StringBuilder body = new StringBuilder();
        StringBuilder due = new StringBuilder();
        for (String line : calls.split("\n")) {
            Matcher m = CALL.matcher(line);
            if (m.find()) {
                body.append("System.out.println(\"").append(m.group(2)).append(": \" + ").append(m.group(1)).append(");\n");
                due.append(m.group(2)).append(": ").append(m.group(3)).append('\n');
            } else {
                body.append(line).append('\n');
            }
        }
        String whole = "public final class Calls {\npublic static void main(String[] args) {\n" + body + "}\n}\n";
        DUE.is("calls with an answer", due.toString().split("\n").length, 7);
        sameLines("the calls by hand", printOf("Calls", whole), due.toString());
    }

    private static void sameLines(String what, String got, String due) {
        String[] g = got.split("\\R");
        String[] d = due.split("\n");
        DUE.is("lines of " + what, g.length, d.length);
        for (int i = 0; i < g.length && i < d.length; i++) {
            DUE.is(what + " prints [" + g[i] + "], README.md says [" + d[i] + "]", g[i].equals(d[i]) ? 1 : 0, 1);
        }
    }

    /** What the main method of a class prints that is compiled from this source, beside BellowsRow. */
    private static String printOf(String name, String source) throws IOException, InterruptedException {
        Path out = Files.createTempDirectory("readme");
        Path file = out.resolve(name + ".java");
        String own = System.getProperty("java.class.path");
        Files.writeString(file, source);
        ran("javac", "--release", "17", "-cp", own, "-d", out.toString(), file.toString());
        String printed = ran("java", "-cp", own + System.getProperty("path.separator") + out, name);
        Files.deleteIfExists(out.resolve(name + ".class"));
        Files.deleteIfExists(file);
        Files.deleteIfExists(out);
        return printed;
    }

    private static String ran(String... command) throws IOException, InterruptedException {
        Process p = new ProcessBuilder(command).redirectError(ProcessBuilder.Redirect.INHERIT).start();
        String printed = new String(p.getInputStream().readAllBytes(), StandardCharsets.UTF_8);
        DUE.is(command[0] + " ends with", p.waitFor(), 0);
        return printed;
    }

    /** The project's files that a command names are there. */
    private static void commands(String text) {
        Matcher m = Pattern.compile("(?m)^    (javac|java|\\.ci/run)\\b.*$").matcher(text);
        int many = 0;
        while (m.find()) {
            many++;
            for (String word : m.group().trim().split(" ")) {
                if (word.matches("(src|\\.ci)/.*") && !word.contains("*")) {
                    DUE.is("README.md names " + word, Files.exists(Path.of(word)) ? 1 : 0, 1);
                }
            }
        }
        DUE.is("commands in README.md", many, 8);
    }
}
