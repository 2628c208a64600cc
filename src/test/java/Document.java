import java.io.IOException;
import java.nio.file.Files;
import java.nio.file.Path;
import java.util.ArrayList;
import java.util.BitSet;
import java.util.List;

/** The document as the tests quote it: a quotation must stand in it, and in the end no sentence may be left out. */
final class Document {
    static final int DESCRIPTION = 0;
    private static final int PROMISES = 53;

    private static final List<String> PARTS = read();
    private static final List<BitSet> QUOTED = new ArrayList<>();

    private Document() {
    }

    /** What is checked from here on is about these words, of a promise or ahead of them. */
    static void quote(int part, String words) {
        Check.about((part == DESCRIPTION ? "" : part + " ") + "\"" + words + "\"");
        String text = PARTS.get(part);
        int at = text.indexOf(words);
        Check.same("stands in the document", at >= 0, true);
        for (; at >= 0; at = text.indexOf(words, at + 1)) {
            quoted(part).set(at, at + words.length());
        }
    }

    static void allIsQuoted() {
        Check.about("the document");
        Check.same("has parts", PARTS.size(), PROMISES + 1);
        for (int part = 0; part < PARTS.size(); part++) {
            Check.same("without a test, in part " + part, unquoted(part), "");
        }
    }

    private static String unquoted(int part) {
        String text = PARTS.get(part);
        StringBuilder rest = new StringBuilder();
        for (int i = 0; i < text.length(); i++) {
            boolean left = !quoted(part).get(i) && Character.isLetterOrDigit(text.charAt(i));
            rest.append(left ? text.charAt(i) : ' ');
        }
        return rest.toString().replaceAll(" +", " ").strip();
    }

    private static BitSet quoted(int part) {
        while (QUOTED.size() <= part) {
            QUOTED.add(new BitSet());
        }
        return QUOTED.get(part);
    }

    /** Part 0 is all that stands ahead of promise 1, part n is promise n; headings and signatures are left out. */
    private static List<String> read() {
        List<StringBuilder> parts = new ArrayList<>();
        boolean within = false;
        for (String line : lines()) {
            if (line.startsWith("## ")) {
                boolean begins = line.equals("## What it is") || line.startsWith("## Promise ");
                within = begins || line.equals("## Description");
                if (begins) {
                    parts.add(new StringBuilder());
                }
            } else if (within && !line.matches("`.*`")) {
                parts.get(parts.size() - 1).append(line.replace("`", "")).append(' ');
            }
        }
        List<String> texts = new ArrayList<>();
        for (StringBuilder part : parts) {
            texts.add(part.toString().replaceAll("\\s+", " "));
        }
        return texts;
    }

    private static List<String> lines() {
        try {
            return Files.readAllLines(Path.of("..", "shared", "DOC.md"));
        } catch (IOException e) {
            throw new IllegalStateException("the document cannot be read", e);
        }
    }
}
