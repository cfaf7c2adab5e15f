import java.io.IOException;
import java.nio.file.Files;
import java.nio.file.Path;
import java.util.ArrayList;
import java.util.List;
import java.util.Map;
import java.util.TreeMap;
import java.util.function.Supplier;
import java.util.function.ToLongFunction;

/**
 * The document's sentences, each with the checks that stand behind it. A sentence is told by its words, which must
 * stand in the document; at the end no words of a promise may be left over that no check was told for.
 */
final class Sentences {
    private static final int TERMS = 0;
    private static final Path DOCUMENT = Path.of("../shared/DOC.md");
    private static final int PROMISES = 58;

    private final Map<Integer, String> parts = new TreeMap<>();
    // What of each part no sentence was told for yet.
    private final Map<Integer, String> rests = new TreeMap<>();
    private final Check check = new Check();
    private String here = "";
    private int told;
    private int asked = 1;

    Sentences() {
        if (!Files.isReadable(DOCUMENT)) {
            System.out.println("no document at " + DOCUMENT + ": its words aren't looked at");
            return;
        }
        try {
            read(Files.readString(DOCUMENT));
        } catch (IOException e) {
            throw new IllegalStateException(e);
        }
    }

    private void read(String document) {
        for (String part : document.split("\n## ")) {
            String words = plain(part);
            if (words.startsWith("Terms ")) {
                // What is said ahead of which calls is a matter of the face.
                parts.put(TERMS, words.substring("Terms ".length(), words.indexOf("Ahead of the calls")));
            } else if (words.startsWith("Promise ")) {
                int number = Integer.parseInt(words.substring("Promise ".length(), words.indexOf(':')));
                // What a promise says stands behind its face, which stands between two backticks.
                parts.put(number, words.substring(words.lastIndexOf('`') + 2).strip());
            }
        }
    }

    private static String plain(String words) {
        return words.replace("```text", " ").replace("```", " ").replaceAll("\\s+", " ").strip();
    }

    /** The checks that follow are for this sentence of the Terms. */
    void terms(String sentence) {
        of(TERMS, sentence);
    }

    /** The checks that follow are for this sentence of a promise. */
    void of(int promise, String sentence) {
        check.due(here + ": checks", Math.min(asked, 1), 1);
        here = (promise == TERMS ? "Terms" : "Promise " + promise) + ", \"" + sentence + "\"";
        asked = 0;
        told++;
        if (parts.isEmpty()) {
            return;
        }
        String part = parts.getOrDefault(promise, "");
        check.due(here + ": stands in the document", part.contains(plain(sentence)), true);
        // A stroke keeps the words on either side of it apart.
        rests.put(promise, rests.getOrDefault(promise, part).replace(plain(sentence), "|"));
    }

    void due(String what, long got, long want) {
        asked++;
        check.due(here + ": " + what, got, want);
    }

    void due(String what, boolean got, boolean want) {
        due(what, got ? 1 : 0, want ? 1 : 0);
    }

    /** An answer that is not refused. */
    void fine(SecondFitting x, String what, long got, long want) {
        due(what, got, want);
        due(what + ", trouble", x.trouble(), 0);
    }

    /** A call that is refused: its answer, its number, no place, and that all else is as if it had not been made. */
    void refused(Supplier<SecondFitting> maker, String what, ToLongFunction<SecondFitting> call, long want,
        int trouble) {
        SecondFitting x = maker.get();
        due(what, call.applyAsLong(x), want);
        due(what + ", trouble", x.trouble(), trouble);
        due(what + ", where", x.where(), -1);
        same(what, Look.at(x, true), Look.at(maker.get(), true));
    }

    /** A text that is at fault: THE TAPE is empty then, and all else is as if it had not been read. */
    void faulty(Supplier<SecondFitting> maker, String text, int fault, int place) {
        SecondFitting x = maker.get();
        x.suit(x.size(12));
        due(text, Check.suitOf(x, text), -1);
        due(text + ", trouble", x.trouble(), 4);
        due(text + ", fault", x.fault(), fault);
        due(text + ", where", x.where(), place);
        due(text + ", bytes of the tape", x.size(12), 0);
        SecondFitting y = maker.get();
        y.suit(y.size(12));
        same(text, Look.at(x, false), Look.at(y, false));
    }

    private void same(String what, List<String> got, List<String> want) {
        List<String> unlike = new ArrayList<>();
        for (int i = 0; i < Math.max(got.size(), want.size()); i++) {
            String one = i < got.size() ? got.get(i) : "nothing";
            String other = i < want.size() ? want.get(i) : "nothing";
            if (!one.equals(other)) {
                unlike.add(one + " in place of " + other);
            }
        }
        if (!unlike.isEmpty()) {
            System.out.println(unlike);
        }
        due(what + ", what else has changed", unlike.size(), 0);
    }

    void end() {
        for (int promise = 0; promise <= PROMISES && !parts.isEmpty(); promise++) {
            // Points and the Terms' numbers alone are no sentences.
            for (String rest : rests.getOrDefault(promise, "no check at all").split("\\|")) {
                boolean isSentence = rest.replaceAll("\\b(I|II|III|IV)\\.", "").matches("(?s).*[A-Za-z0-9].*");
                check.due("Promise " + promise + " has words without a check: " + rest, isSentence ? 1 : 0, 0);
            }
        }
        System.out.println(told + " sentences");
        check.end();
    }
}
