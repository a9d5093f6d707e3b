import java.io.IOException;
import java.nio.file.Files;
import java.nio.file.Path;
import java.util.LinkedHashMap;
import java.util.Map;

/** The document: which words stand under which heading, and which of them a test has named. */
final class Doc {
    private static final Path FILE = Path.of("..", "shared", "DOC.md");
    private static final Map<String, Part> PARTS = read();

    private Doc() {
    }

    private static final class Part {
        private String words = "";
        private boolean[] named;

        private void name(int from, int length) {
            for (int i = from; i < from + length; i++) {
                named[i] = true;
            }
        }

        private String unnamed() {
            StringBuilder rest = new StringBuilder();
            for (int i = 0; i < named.length; i++) {
                rest.append(named[i] ? ' ' : words.charAt(i));
            }
            return oneLine(rest.toString());
        }
    }

    /** A test begins: its answers are due to these words, which must stand under that heading. */
    static void says(String heading, String words) {
        Check.about(heading + ": " + words);
        Part part = PARTS.get(heading);
        int from = part == null ? -1 : part.words.indexOf(words);
        if (from < 0) {
            Check.fault("the document does not say so");
        } else {
            part.name(from, words.length());
        }
    }

    /** Every word of the Terms and of the promises must have been named by a test. */
    static void dueWhole() {
        Check.about("");
        int found = 0;
        for (Map.Entry<String, Part> entry : PARTS.entrySet()) {
            String heading = entry.getKey();
            if (heading.equals("Terms") || heading.startsWith("Promise ")) {
                found++;
                String rest = entry.getValue().unnamed();
                if (!rest.isEmpty()) {
                    Check.fault(heading + ": no test names: " + rest);
                }
            }
        }
        Check.due("parts of the document", found, 14);
    }

    private static Map<String, Part> read() {
        Map<String, Part> parts = new LinkedHashMap<>();
        Part part = new Part();
        for (String line : lines()) {
            if (line.startsWith("## ")) {
                part = new Part();
                parts.put(shortHeading(line.substring(3)), part);
            } else {
                part.words = part.words + " " + line;
            }
        }
        for (Part each : parts.values()) {
            each.words = withoutSignature(oneLine(each.words));
            each.named = new boolean[each.words.length()];
        }
        return parts;
    }

    private static Iterable<String> lines() {
        try {
            return Files.readAllLines(FILE);
        } catch (IOException e) {
            throw new IllegalStateException("no document at " + FILE, e);
        }
    }

    /** "Promise 4: place" is named "Promise 4". */
    private static String shortHeading(String heading) {
        int colon = heading.indexOf(':');
        return colon < 0 ? heading : heading.substring(0, colon);
    }

    /** A promise begins with the method's signature, which FaceTest is for. */
    private static String withoutSignature(String words) {
        int end = words.indexOf("`: ");
        return words.startsWith("`") && end > 0 ? words.substring(end + 3) : words;
    }

    private static String oneLine(String words) {
        return words.replaceAll("\\s+", " ").trim();
    }
}
