import java.io.IOException;
import java.nio.charset.StandardCharsets;
import java.nio.file.Files;
import java.nio.file.Path;
import java.util.Arrays;
import java.util.regex.Matcher;
import java.util.regex.Pattern;

/**
 * The words of ../shared/DOC.md that have been tested. Each word of what is promised has to stand within words that some
 * test quotes: so a sentence that nobody tested, or that has been changed since, is found.
 */
final class Ledger {
    private static final Pattern NOT_QUOTED = Pattern.compile("[A-Za-z0-9][^~]*");

    final Check check = new Check();
    private final String document;
    private final boolean[] quoted;

    Ledger(Path path) throws IOException {
        String whole = Files.readString(path, StandardCharsets.UTF_8);
        String use = between(whole, "An object is used for", "## The public face");
        String promises = between(whole, "## Terms", "## Not promised");
        // headings and fences promise nothing
        String bare = promises.replaceAll("(?m)^##? .*$", "").replaceAll("(?m)^```.*$", "").replaceAll("==== [IV]+\\.", "");
        document = flat(use + bare);
        quoted = new boolean[document.length()];
    }

    private String between(String whole, String first, String next) {
        int from = whole.indexOf(first);
        int end = whole.indexOf(next);
        boolean there = from >= 0 && from < end;
        check.due("the document has a part from " + first + " to " + next, true, there);
        return there ? whole.substring(from, end) : "";
    }

    private static String flat(String text) {
        return text.replaceAll("\\s+", " ");
    }

    /** What is tested next: words of the document. */
    void says(String words) {
        String flat = flat(words);
        int at = document.indexOf(flat);
        check.due("the document says: " + words, true, at >= 0);
        while (at >= 0) {
            Arrays.fill(quoted, at, at + flat.length(), true);
            at = document.indexOf(flat, at + 1);
        }
    }

    /** Prints all words of the document that no test quotes. */
    void everyWordIsQuoted() {
        char[] left = document.toCharArray();
        for (int i = 0; i < left.length; i++) {
            left[i] = quoted[i] ? '~' : left[i];
        }
        Matcher found = NOT_QUOTED.matcher(new String(left));
        boolean all = true;
        while (found.find()) {
            all = false;
            System.out.println("no test quotes: " + found.group());
        }
        check.due("every word of the document is quoted", true, all);
    }
}
