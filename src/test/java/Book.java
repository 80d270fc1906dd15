import java.io.IOException;
import java.nio.file.Files;
import java.nio.file.Path;
import java.util.ArrayList;
import java.util.Collections;
import java.util.HashMap;
import java.util.List;
import java.util.Map;
import java.util.regex.Matcher;
import java.util.regex.Pattern;

/**
 * The document's sentences that name a boundary case: each is quoted in its own words and has checks of its own. What
 * isn't quoted may name no boundary.
 */
final class Book {
    private static final Path DOCUMENT = Path.of("../shared/DOC.md");
    private static final Pattern BOUNDARY = Pattern.compile(
        "[0-9]|\\b(none?|nothing|NONE|least|most|first|last|fewest|gone|empty|anew|never|ahead|below|False|\\w+Exception)\\b");

    private final Map<String, String> sections = new HashMap<>();
    private final Map<String, boolean[]> quoted = new HashMap<>();

    Book() {
        try {
            for (String section : Files.readString(DOCUMENT).split("(?m)^## ")) open(section);
        } catch (IOException e) {
            System.out.println("no document at " + DOCUMENT + ": quotes aren't looked up");
        }
    }

    private void open(String section) {
        int end = section.indexOf('\n');
        if (end < 0) return;
        String name = section.substring(0, end).replaceAll(":.*", "");
        String body = section.substring(end).replace("```text", "").replace("```", "").replaceAll("\\s+", " ");
        sections.put(name, body);
        quoted.put(name, new boolean[body.length()]);
    }

    void edge(int promise, String words, Runnable checks) {
        edge("Promise " + promise, words, checks);
    }

    void edge(String section, String words, Runnable checks) {
        Desk.about(section + ": " + words);
        if (!sections.isEmpty()) quote(section, words);
        int before = Desk.checks();
        try {
            checks.run();
        } catch (RuntimeException e) {
            Desk.due("a call", "throws " + e, "an answer");
        }
        Desk.holds("something is checked", Desk.checks() > before);
        Desk.about("");
    }

    private void quote(String section, String words) {
        int at = sections.getOrDefault(section, "").indexOf(words);
        if (at < 0) {
            Desk.holds("the words stand there", false);
            return;
        }
        for (int i = 0; i < words.length(); i++) quoted.get(section)[at + i] = true;
    }

    /** Every promise must have been quoted, and no boundary word may stand outside all quotes. */
    void close() {
        List<String> names = new ArrayList<>(sections.keySet());
        Collections.sort(names);
        for (String name : names) {
            if (!name.equals("Terms") && !name.startsWith("Promise ")) continue;
            Matcher m = BOUNDARY.matcher(rest(name));
            if (m.find()) Desk.due("no test quotes '" + m.group() + "' of " + name, rest(name).trim(), "");
            if (!isQuoted(name)) Desk.due("no test quotes " + name, sections.get(name), "");
        }
    }

    private boolean isQuoted(String name) {
        for (boolean one : quoted.get(name)) {
            if (one) return true;
        }
        return false;
    }

    /** What no quote has, without the heads of methods; a gap stands for each quote. */
    private String rest(String name) {
        String body = sections.get(name);
        StringBuilder s = new StringBuilder();
        boolean inHead = false;
        for (int i = 0; i < body.length(); i++) {
            if (body.charAt(i) == '`') inHead = !inHead;
            else if (!inHead) s.append(quoted.get(name)[i] ? '_' : body.charAt(i));
        }
        return s.toString().replaceAll("_+", " _ ").replaceAll("==== [0-9]\\.", "");
    }
}
