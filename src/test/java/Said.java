import java.io.IOException;
import java.nio.file.Files;
import java.nio.file.Path;
import java.util.ArrayList;
import java.util.List;
import java.util.TreeSet;

/**
 * Answers under the sentence of the document that asks for them: one that is not due is told with
 * its sentence, and a sentence that the document does not have is told too. Sections are "What it
 * is", the terms "I" to "VI", and the promises "1" to "48".
 */
final class Said {
    private final Due due;
    private final String doc;
    private final TreeSet<String> sections = new TreeSet<>();
    private String now = "";

    Said(String name) {
        due = new Due(name);
        doc = readDoc();
    }

    /** The property doc names DOC.md; without it sentences are not looked up. */
    private static String readDoc() {
        String path = System.getProperty("doc");
        if (path == null) {
            return null;
        }
        try {
            return "\n" + Files.readString(Path.of(path));
        } catch (IOException e) {
            throw new IllegalStateException("no document at " + path, e);
        }
    }

    private String textOf(String section) {
        String head = section.equals("What it is") ? "\n## What it is\n"
            : section.matches("[IV]+") ? "\n" + section + ". " : "\n## Promise " + section + ":";
        int from = doc.indexOf(head);
        if (from < 0) {
            return "";
        }
        String rest = doc.substring(from + head.length());
        String[] ends = section.matches("[IV]+") ? new String[] {"\nI", "\nV", "\n## "} : new String[] {"\n## "};
        int to = rest.length();
        for (String end : ends) {
            int at = rest.indexOf(end);
            to = at >= 0 ? Math.min(to, at) : to;
        }
        return rest.substring(0, to);
    }

    /** What follows is asked by these words of the section. */
    void says(String section, String words) {
        now = section + " \"" + words + "\": ";
        sections.add(section);
        if (doc != null && !textOf(section).contains(words)) {
            due.is(now + "stands in the document", 0, 1);
        }
    }

    void is(String call, long got, long want) {
        due.is(now + call, got, want);
    }

    /** A text that is read: how many LINES. */
    BellowsRow good(int lines, String text) {
        BellowsRow x = new BellowsRow();
        Due.tape(x, text);
        is("works [" + text + "]", x.works(), lines);
        is("fault [" + text + "]", x.fault(0), 0);
        is("place [" + text + "]", x.fault(1), -1);
        is("lines [" + text + "]", x.count(7), lines);
        return x;
    }

    /** A text with a FAULT, which is where the sign ^ stands (the text is without it). */
    BellowsRow bad(int what, String marked) {
        int place = marked.indexOf('^');
        String text = marked.substring(0, place) + marked.substring(place + 1);
        BellowsRow x = new BellowsRow();
        Due.tape(x, text);
        is("works [" + text + "]", x.works(), -4);
        is("fault [" + text + "]", x.fault(0), what);
        is("place [" + text + "]", x.fault(1), place);
        is("lines [" + text + "]", x.count(7), 0);
        return x;
    }

    /** One LINE more, with a number: the bounds are good, what is next outside them is FAULT 2 at the number. */
    void bounds(String ahead, int least, int most, String behind) {
        int lines = (int) (ahead + behind).chars().filter(c -> c == ';').count();
        good(lines, ahead + least + behind);
        good(lines, ahead + most + behind);
        bad(2, ahead + "^" + (most + 1) + behind);
        if (least > 0) {
            bad(2, ahead + "^" + (least - 1) + behind);
        }
    }

    /** Ends with exit code 1 if an answer was not due, or one of these sections had no test. */
    void end(String... all) {
        List<String> untold = new ArrayList<>();
        for (String section : all) {
            if (!sections.contains(section)) {
                untold.add(section);
            }
        }
        now = "";
        is("sections without a test: " + untold, untold.size(), 0);
        due.end();
    }
}
