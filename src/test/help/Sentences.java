import java.io.IOException;
import java.nio.file.Files;
import java.nio.file.Path;
import java.util.ArrayList;
import java.util.BitSet;
import java.util.LinkedHashMap;
import java.util.List;
import java.util.Map;
import java.util.regex.Matcher;
import java.util.regex.Pattern;

/**
 * The document, cut into its parts: a test quotes the words that it holds the program to, and no
 * word of a part may be left without a test.
 */
abstract class Sentences extends Bench {
    private static final Path DOC = Path.of("../shared/DOC.md");
    private static final Map<String, String> PARTS = new LinkedHashMap<>();
    private static final Map<String, BitSet> QUOTED = new LinkedHashMap<>();

    /** Parts are I to IV and the constants of the Terms, and 1 to 39 by the promises' numbers. */
    static void open() throws IOException {
        if (Files.notExists(DOC)) {
            System.out.println("no document at " + DOC + ": the tests run, what they quote is not looked at");
            return;
        }
        for (String chapter : Files.readString(DOC).split("(?m)^## ")) {
            Matcher promise = Pattern.compile("^Promise (\\d+): [^\n]*\n\\s*`[^`]*`:(.*)", Pattern.DOTALL).matcher(chapter);
            if (promise.find()) {
                put(promise.group(1), promise.group(2));
            } else if (chapter.startsWith("Terms")) {
                Matcher part = Pattern.compile("(?ms)^(IV|I{1,3})\\.(.*?)(?=^(IV|I{1,3})\\.|^The constants:)").matcher(chapter);
                while (part.find()) {
                    put(part.group(1), part.group(2));
                }
                put("constants", chapter.substring(chapter.indexOf("The constants:") + "The constants:".length()));
            }
        }
    }

    private static void put(String part, String text) {
        PARTS.put(part, text.replaceAll("```(text)?", " ").replaceAll("\\s+", " "));
        QUOTED.put(part, new BitSet());
    }

    /** A sentence, or a piece of one, with a test of its own. */
    static void sentence(String part, String words, Runnable test) {
        at(part + ", \"" + words + "\"");
        if (!PARTS.isEmpty()) {
            quote(part, words);
        }
        test.run();
    }

    private static void quote(String part, String words) {
        String text = PARTS.getOrDefault(part, "");
        int found = text.indexOf(words);
        due("words that stand in the document", found >= 0 ? 1 : 0, 1);
        while (found >= 0) {
            QUOTED.get(part).set(found, found + words.length());
            found = text.indexOf(words, found + 1);
        }
    }

    /** Each word of a part must have been quoted. */
    static void whole(String part) {
        if (PARTS.isEmpty()) {
            return;
        }
        at(part);
        String text = PARTS.getOrDefault(part, "no such part");
        BitSet quoted = QUOTED.getOrDefault(part, new BitSet());
        List<String> left = new ArrayList<>();
        for (int start = quoted.nextClearBit(0); start < text.length(); ) {
            int end = quoted.nextSetBit(start);
            end = end < 0 ? text.length() : end;
            if (text.substring(start, end).matches(".*[\\w].*")) {
                left.add(text.substring(start, end));
            }
            start = quoted.nextClearBit(end);
        }
        same("what no test quotes", left.toString(), "[]");
    }
}
