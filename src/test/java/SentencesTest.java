import java.nio.file.Files;
import java.nio.file.Path;
import java.util.BitSet;
import java.util.regex.Matcher;
import java.util.regex.Pattern;

/**
 * The boundary cases, sentence by sentence, and whether these are all of them: each sentence named
 * stands in the document, and no word of a promise, or of "Terms", is left that none names. The
 * document's path is the second argument.
 */
public final class SentencesTest {
    private static final int PROMISES = 43;

    public static void main(String[] args) throws Exception {
        RowEdges.run();
        TextEdges.run();
        FaultEdges.run();
        KindEdges.run();
        PlayerEdges.run();
        DeedEdges.run();
        AsideEdges.run();
        EvidenceEdges.run();
        StrengthEdges.run();
        ChanceEdges.run();
        ToldEdges.run();
        TermEdges.run();
        String document = Files.readString(Path.of(args.length > 1 ? args[1] : "../shared/DOC.md"));
        for (int promise = Sentence.WHAT; promise <= PROMISES; promise++) {
            held(promise, section(document, promise));
        }
        Checks.finish();
    }

    private static String section(String document, int promise) {
        String head = promise == Sentence.WHAT ? "What it is" : promise == Sentence.TERMS ? "Terms" : "Promise " + promise + ": ";
        Matcher m = Pattern.compile("(?s)\n## " + head + "[^\n]*\n(.*?)(?=\n## |$)").matcher(document);
        if (!m.find()) {
            Checks.due("the document has '" + head + "'", 0, 1);
            return "";
        }
        return m.group(1).replaceAll("\\s+", " ");
    }

    /** Parts that say nothing to hold: a call's face, and how sections and fences begin. */
    private static BitSet framing(String text) {
        BitSet framing = new BitSet();
        Matcher m = Pattern.compile("`[^`]*`:|```text|```|======== \\d |Ahead of the calls .*? says: ---- \\d+ [^(.]*").matcher(text);
        while (m.find()) {
            framing.set(m.start(), m.end());
        }
        return framing;
    }

    private static void held(int promise, String text) {
        BitSet named = framing(text);
        for (Sentence s : Sentence.all()) {
            if (s.promise == promise) {
                Checks.due(s + " stands in the document", text.contains(s.words) ? 1 : 0, 1);
                Checks.due(s + " has a check", s.isChecked() ? 1 : 0, 1);
                for (int at = text.indexOf(s.words); at >= 0; at = text.indexOf(s.words, at + 1)) {
                    named.set(at, at + s.words.length());
                }
            }
        }
        if (promise != Sentence.WHAT) {
            for (int at = named.nextClearBit(0); at < text.length(); at = named.nextClearBit(at)) {
                int end = named.nextSetBit(at) < 0 ? text.length() : named.nextSetBit(at);
                String left = text.substring(at, end);
                boolean hasWords = left.codePoints().anyMatch(Character::isLetterOrDigit);
                Checks.due((promise == 0 ? "Terms" : "Promise " + promise) + ", no test for '" + left + "'", hasWords ? 1 : 0, 0);
                at = end;
            }
        }
    }
}
