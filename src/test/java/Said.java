import java.io.IOException;
import java.nio.file.Files;
import java.nio.file.Path;
import java.util.ArrayList;
import java.util.List;
import java.util.Map;
import java.util.TreeMap;

/**
 * Answers under the sentence of the document that asks for them: one that is not due is told with
 * its sentence. Words that the document does not have, and sentences of it that no test names, are
 * told as notes: they are no fault of the class, but the tests are to be read again. Sections are
 * "What it is", the terms "I" to "VI", and the promises "1" to "48".
 */
final class Said {
    private final Due due;
    private final String doc;
    private final Map<String, List<String>> sections = new TreeMap<>();
    private String now = "";

    Said(String name) {
        due = new Due(name);
        doc = readDoc();
    }

    /** The property doc names DOC.md; without it, or where none is, sentences are not looked up. */
    private static String readDoc() {
        String path = System.getProperty("doc");
        if (path == null) {
            return null;
        }
        try {
            return "\n" + Files.readString(Path.of(path));
        } catch (IOException e) {
            System.out.println("note: no document at " + path);
            return null;
        }
    }

    private String textOf(String section) {
        String head = section.equals("What it is") ? "\n## What it is\n"
            : section.matches("[IV]+") ? "\n" + section + ". " : "\n## Promise " + section + ": ";
        int from = doc.indexOf(head);
        if (from < 0) {
            return "";
        }
        int heading = section.matches("[0-9]+") ? doc.indexOf('\n', from + 1) : from + head.length();
        String rest = doc.substring(heading);
        String[] ends = section.matches("[IV]+") ? new String[] {"\nI", "\nV", "\n## "} : new String[] {"\n## "};
        int to = rest.length();
        for (String end : ends) {
            int at = rest.indexOf(end);
            to = at >= 0 ? Math.min(to, at) : to;
        }
        return rest.substring(0, to);
    }

    /** What follows is asked by these words of the section. */
    void says(String section, String words) {
        now = section + " \"" + words + "\": ";
        sections.computeIfAbsent(section, s -> new ArrayList<>()).add(words);
        if (doc != null && !textOf(section).contains(words)) {
            System.out.println("note: the document has no such words: " + now);
        }
    }

    void is(String call, long got, long want) {
        due.is(now + call, got, want);
    }

    /** A text that is read: how many LINES. */
    BellowsRow good(int lines, String text) {
        BellowsRow x = new BellowsRow();
        Due.tape(x, text);
        is("works [" + text + "]", x.works(), lines);
        is("fault [" + text + "]", x.fault(0), 0);
        is("place [" + text + "]", x.fault(1), -1);
        is("lines [" + text + "]", x.count(7), lines);
        return x;
    }

    /** A text with a FAULT, which is where the sign ^ stands (the text is without it). */
    BellowsRow bad(int what, String marked) {
        int place = marked.indexOf('^');
        String text = marked.substring(0, place) + marked.substring(place + 1);
        BellowsRow x = new BellowsRow();
        Due.tape(x, text);
        is("works [" + text + "]", x.works(), -4);
        is("fault [" + text + "]", x.fault(0), what);
        is("place [" + text + "]", x.fault(1), place);
        is("lines [" + text + "]", x.count(7), 0);
        return x;
    }

    /** One LINE more, with a number: the bounds are good, what is next outside them is FAULT 2 at the number. */
    void bounds(String ahead, int least, int most, String behind) {
        int lines = (int) (ahead + behind).chars().filter(c -> c == ';').count();
        good(lines, ahead + least + behind);
        good(lines, ahead + most + behind);
        bad(2, ahead + "^" + (most + 1) + behind);
        if (least > 0) {
            bad(2, ahead + "^" + (least - 1) + behind);
        }
    }

    /** What of a section no test has named; its call's form, between two signs `, is the face's matter. */
    private String untold(String section) {
        char[] left = textOf(section).replace("```text", "").replace("```", "").toCharArray();
        String text = new String(left);
        for (String words : sections.getOrDefault(section, List.of())) {
            int at = text.indexOf(words);
            for (int i = at; at >= 0 && i < at + words.length(); i++) {
                left[i] = ' ';
            }
        }
        return new String(left).replaceAll("`[^`]*`:", "");
    }

    /** Ends with exit code 1 if an answer was not due, or one of these sections had no test. */
    void end(String... all) {
        now = "";
        for (String section : all) {
            is("section " + section + " has a test", sections.containsKey(section) ? 1 : 0, 1);
            if (doc != null && untold(section).matches("(?s).*[A-Za-z0-9].*")) {
                System.out.println("note: no test names all of section " + section + ": " + untold(section).trim());
            }
        }
        due.end();
    }
}
