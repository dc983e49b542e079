import java.io.IOException;
import java.lang.reflect.Method;
import java.nio.file.Files;
import java.nio.file.Path;
import java.util.ArrayList;
import java.util.List;

/**
 * Each test of a sentence names words that stand in ../shared/DOC.md, and together they name all that it promises:
 * words of it that no test is for are printed.
 */
public final class DocumentTests {
    private static final Path DOCUMENT = Path.of("../shared/DOC.md");
    private static final Due due = new Due();

    public static void main(String[] args) throws IOException {
        if (!Files.exists(DOCUMENT)) {
            System.out.println("there is no " + DOCUMENT + " here");
            return;
        }
        String document = promises(Files.readString(DOCUMENT));
        boolean[] named = new boolean[document.length()];
        for (Class<?> part : Parts.ALL) {
            for (Method test : part.getDeclaredMethods()) {
                Sentence sentence = test.getAnnotation(Sentence.class);
                if (sentence != null) name(document, named, part.getName() + "." + test.getName(), sentence.value());
            }
        }
        for (String words : unnamed(document, named)) due.holds("no test is for: " + words, false);
        due.end();
    }

    /** The document from "1 CANDIDATES" up to "Not promised", without headings, signatures and what is no promise. */
    private static String promises(String text) {
        StringBuilder lines = new StringBuilder();
        for (String line : text.substring(0, text.indexOf("## Not promised")).split("\n")) {
            boolean aside = line.startsWith("#") || line.startsWith("```") || line.startsWith("Ahead of the calls")
                || line.startsWith("public ") || line.startsWith("    public ") || line.startsWith("}");
            if (!aside) lines.append(line.replaceAll("^`[a-zA-Z ]*\\([a-z, ]*\\)`: ", "")).append(' ');
        }
        String plain = lines.toString().replaceAll("\\s+", " ");
        return plain.substring(plain.indexOf("CANDIDATES 0 .. as many"));
    }

    private static void name(String document, boolean[] named, String test, String[] quotes) {
        for (String quote : quotes) {
            int at = document.indexOf(quote);
            due.holds(test + " is for words that the document has not: " + quote, at >= 0);
            for (; at >= 0; at = document.indexOf(quote, at + 1)) {
                for (int i = at; i < at + quote.length(); i++) named[i] = true;
            }
        }
    }

    private static List<String> unnamed(String document, boolean[] named) {
        List<String> rows = new ArrayList<>();
        StringBuilder row = new StringBuilder();
        for (int i = 0; i <= document.length(); i++) {
            if (i < document.length() && !named[i]) {
                row.append(document.charAt(i));
                continue;
            }
            // Numbers of parts, and joints between quoted words, are no sentences.
            String words = row.toString().replaceAll("======== \\d", "").strip();
            if (words.matches("(?s).*[A-Za-z0-9].*")) rows.add(words);
            row.setLength(0);
        }
        return rows;
    }
}
