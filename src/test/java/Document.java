import java.io.IOException;
import java.io.UncheckedIOException;
import java.nio.file.Files;
import java.nio.file.Path;
import java.util.ArrayList;
import java.util.List;
import java.util.regex.Matcher;
import java.util.regex.Pattern;

/**
 * The document, sentence by sentence: a test says which one it stands for, and behind all of them
 * it is looked at whether words that name a boundary are left for which none stands.
 */
final class Document {
    static final int PROMISES = 56;
    /** Part 0 is what stands ahead of part 1, part 12 what stands behind part 11. */
    static final int PARTS = 12;
    private static final Pattern BOUNDARY = Pattern.compile("UNKNOWN|OUTSIDE|\\bNO\\b|\\bFULL\\b|NOTHING"
            + "|FAULTS?\\b|ArithmeticException|-?\\d+ \\.\\. |\\d+ to \\d+|at most|at first|[uU]p to"
            + "|fewer|above|\\bbelow\\b|beyond|wrapping|lowest|in 32 bits|modulo|\\bnone\\b|-1|\\b60\\b");

    private static final List<Section> SECTIONS = read();

    private Document() {
    }

    private static final class Section {
        final String name;
        final String call;
        final String text;
        final boolean[] covered;

        Section(String name, String call, String text) {
            this.name = name;
            this.call = call;
            this.text = text.replaceAll("\\s+", " ");
            covered = new boolean[this.text.length()];
        }

        void cover(String quote) {
            int at = text.indexOf(quote);
            Due.yes(name + " says: " + quote, at >= 0);
            for (; at >= 0; at = text.indexOf(quote, at + 1)) {
                for (int i = 0; i < quote.length(); i++) {
                    covered[at + i] = true;
                }
            }
        }

        void lookForRest() {
            Matcher m = BOUNDARY.matcher(text);
            while (m.find()) {
                String near = text.substring(Math.max(0, m.start() - 30), Math.min(text.length(), m.end() + 30));
                Due.yes(name + ": a test for .." + near + "..", covered[m.start()]);
            }
        }
    }

    private static List<Section> read() {
        String all;
        try {
            all = Files.readString(Path.of("../shared/DOC.md"));
        } catch (IOException e) {
            throw new UncheckedIOException(e);
        }
        List<Section> sections = new ArrayList<>();
        String terms = between(all, "## Terms", "\nAhead of the calls");
        for (int part = 0; part < PARTS; part++) {
            String from = part == 0 ? "" : "======== " + part + " ";
            String to = part == PARTS - 1 ? "\nREFUSALS are" : "======== " + (part + 1) + " ";
            sections.add(new Section("Terms, part " + part, "", between(terms, from, to)));
        }
        sections.add(new Section("Terms, REFUSALS", "", terms.substring(terms.indexOf("\nREFUSALS are"))));
        for (int number = 1; number <= PROMISES; number++) {
            String text = between(all, "## Promise " + number + ":", "\n## ");
            String call = text.substring(0, text.indexOf('\n')).trim();
            sections.add(new Section("Promise " + number, call, text.substring(text.indexOf("`:") + 2)));
        }
        return sections;
    }

    private static String between(String all, String from, String to) {
        int at = all.indexOf(from) + from.length();
        return all.substring(at, all.indexOf(to, at));
    }

    static void term(int part, String quote) {
        SECTIONS.get(part).cover(quote);
    }

    static void promise(int number, String quote) {
        SECTIONS.get(PARTS + number).cover(quote);
    }

    /** What the document says behind a call's face. */
    static String promiseOf(String call) {
        for (Section s : SECTIONS.subList(PARTS + 1, SECTIONS.size())) {
            if (s.call.equals(call)) {
                return s.text;
            }
        }
        Due.yes(call + " has a promise", false);
        return "";
    }

    static void lookForRest() {
        Due.same("sections", SECTIONS.size(), PARTS + 1 + PROMISES);
        for (Section s : SECTIONS) {
            s.lookForRest();
        }
    }
}
