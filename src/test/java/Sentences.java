import java.io.IOException;
import java.nio.file.Files;
import java.nio.file.Path;
import java.util.ArrayList;
import java.util.HashSet;
import java.util.List;
import java.util.Set;

/**
 * The document, sentence by sentence. A test says which sentence its next checks are about; a sentence that no test
 * names, that is named without a check, or that the document does not hold, counts as wrong.
 */
final class Sentences {
    private static final Path DOCUMENT = Path.of("../shared/DOC.md");

    private final List<String> due;
    private final Set<String> begun = new HashSet<>();
    private String now = "";
    private int checksAhead;

    private Sentences(List<String> due) {
        this.due = due;
    }

    /** "Signs: Signs are typed, .." and all that follows of the part "Terms". */
    static Sentences ofTerms() throws IOException {
        List<String> sentences = new ArrayList<>();
        String text = Files.readString(DOCUMENT);
        String terms = text.substring(text.indexOf("## Terms"), text.indexOf("## Promise 1"));
        for (String line : terms.split("\n")) {
            int head = line.indexOf(". ");
            if (head > 0) {
                addEach(sentences, line.substring(0, head), line.substring(head + 2));
            }
        }
        return new Sentences(sentences);
    }

    /** "2: Types a sign.", "2: - `sign`: the sign", "2: Returns .." and all that follows of the promises. */
    static Sentences ofPromises() throws IOException {
        List<String> sentences = new ArrayList<>();
        String text = Files.readString(DOCUMENT);
        String[] promises = text.substring(0, text.indexOf("## Not promised")).split("## Promise ");
        for (int k = 1; k < promises.length; k++) {
            String number = promises[k].substring(0, promises[k].indexOf(':'));
            for (String line : promises[k].substring(promises[k].indexOf('\n')).split("\n")) {
                String behind = line.startsWith("`") ? line.substring(line.indexOf("`: ") + 3) : line;
                if (!behind.isBlank()) {
                    addEach(sentences, number, behind);
                }
            }
        }
        return new Sentences(sentences);
    }

    private static void addEach(List<String> sentences, String chapter, String text) {
        for (String sentence : text.split("(?<=\\.) ")) {
            sentences.add(chapter + ": " + sentence);
        }
    }

    /** The next checks are about the sentence of a chapter that begins so. */
    void says(String chapter, String begin) {
        finish();
        now = "";
        for (String sentence : due) {
            if (sentence.startsWith(chapter + ": " + begin)) {
                Kit.due("just one sentence begins with \"" + chapter + ": " + begin + "\"", now.isEmpty(), true);
                now = sentence;
            }
        }
        Kit.due("a sentence begins with \"" + chapter + ": " + begin + "\"", !now.isEmpty(), true);
        begun.add(now);
        Kit.about(now);
        checksAhead = Kit.checks();
    }

    private void finish() {
        if (!now.isEmpty()) {
            Kit.due("a sentence that is named is checked", Kit.checks() > checksAhead, true);
        }
    }

    void end() {
        finish();
        for (String sentence : due) {
            Kit.about(sentence);
            Kit.due("this sentence has a test", begun.contains(sentence), true);
        }
    }
}
