import java.io.IOException;
import java.nio.file.Files;
import java.nio.file.Path;
import java.util.ArrayList;
import java.util.HashMap;
import java.util.HashSet;
import java.util.List;
import java.util.Map;
import java.util.Set;
import java.util.function.IntToLongFunction;
import java.util.regex.Matcher;
import java.util.regex.Pattern;

/**
 * Answers due at the edges that the document names. Each stands under the sentence that names it, told
 * in the document's own words; at the end no bound and no refusal of the document may be left without.
 */
final class Edges {
    static final int LEAST = Integer.MIN_VALUE;
    static final int GREATEST = Integer.MAX_VALUE;

    private static final int PROMISES = 62;
    private static final Pattern BOUNDS = Pattern.compile("[\\d,]+ \\.\\. (?:[\\d,]*\\d|TICKETS|length)");
    private static final Pattern REFUSALS = Pattern.compile("-[2-8]\\b|\\bNONE\\b");

    private final Check check = new Check();
    /** By "Promise 1" .. "Promise 62", "Terms I" .. "Terms VII" and "What it is". */
    private final Map<String, String> texts = new HashMap<>();
    private final Map<String, List<String>> quotes = new HashMap<>();
    private final Map<String, Set<Long>> answers = new HashMap<>();
    private String under;
    private String words;
    private int askedHere = 1;

    Edges() throws IOException {
        String document = Files.readString(Path.of("../shared/DOC.md"));
        split(document, "## (Promise \\d+): .*", "");
        split(document.replaceAll("(?s)## The public face.*", ""), "## (What it is)", "");
        split(document.replaceAll("(?s).*## Terms", "").replaceAll("(?s)## Promise 1:.*", ""), "([IV]+)\\.(?= )", "Terms ");
        check.due("promises of the document", texts.keySet().stream().filter(k -> k.startsWith("P")).count(), PROMISES);
        check.due("terms of the document", texts.keySet().stream().filter(k -> k.startsWith("T")).count(), 7);
    }

    private void split(String text, String heading, String before) {
        Matcher matcher = Pattern.compile("(?m)^" + heading).matcher(text);
        List<Integer> starts = new ArrayList<>();
        List<String> names = new ArrayList<>();
        while (matcher.find()) {
            starts.add(matcher.start());
            names.add(before + matcher.group(1));
        }
        for (int i = 0; i < names.size(); i++) {
            int stop = i + 1 < names.size() ? starts.get(i + 1) : text.length();
            String part = text.substring(starts.get(i), stop).replaceAll("(?s)\n## Not promised.*", "");
            texts.put(names.get(i), part.replaceAll("\\s+", " "));
        }
    }

    void promise(int n, String sentence) {
        quote("Promise " + n, sentence);
    }

    void term(String n, String sentence) {
        quote("Terms " + n, sentence);
    }

    void opening(String sentence) {
        quote("What it is", sentence);
    }

    private void quote(String where, String sentence) {
        check.holds("a test under: " + words, askedHere > 0);
        check.holds(where + " has the words: " + sentence, texts.getOrDefault(where, "").contains(sentence));
        quotes.computeIfAbsent(where, w -> new ArrayList<>()).add(sentence);
        under = where;
        words = sentence;
        askedHere = 0;
    }

    void due(String call, long got, long want) {
        askedHere++;
        answers.computeIfAbsent(under, w -> new HashSet<>()).add(want);
        check.due(under + " (" + words + "): " + call, got, want);
    }

    void holds(String what, boolean so) {
        askedHere++;
        check.holds(under + " (" + words + "): " + what, so);
    }

    /** A number may be from the least to the greatest one; for all others there is -2. */
    void bounds(String call, IntToLongFunction asked, int least, int greatest) {
        due(call + " below the least", asked.applyAsLong(least - 1), -2);
        holds(call + " of the least", asked.applyAsLong(least) != -2);
        holds(call + " of the greatest", asked.applyAsLong(greatest) != -2);
        due(call + " above the greatest", asked.applyAsLong(greatest + 1), -2);
        due(call + " of the least number of all", asked.applyAsLong(LEAST), -2);
        due(call + " of the greatest number of all", asked.applyAsLong(GREATEST), -2);
    }

    void finish() {
        quote("Promise 1", "No ROLL.");
        askedHere = 1;
        for (int n = 1; n <= PROMISES; n++) {
            finish("Promise " + n);
            Matcher refusals = REFUSALS.matcher(texts.get("Promise " + n));
            while (refusals.find()) {
                long refusal = refusals.group().equals("NONE") ? -1 : Long.parseLong(refusals.group());
                check.holds("Promise " + n + ": a test of " + refusals.group(),
                        answers.getOrDefault("Promise " + n, Set.of()).contains(refusal));
            }
        }
        for (String term : List.of("I", "II", "III", "IV", "V", "VI", "VII")) {
            finish("Terms " + term);
        }
        check.finish();
    }

    private void finish(String where) {
        List<String> told = quotes.getOrDefault(where, List.of());
        check.holds(where + ": a test", !told.isEmpty());
        Matcher bounds = BOUNDS.matcher(texts.get(where));
        while (bounds.find()) {
            String bound = bounds.group();
            check.holds(where + ": a test of " + bound, told.stream().anyMatch(t -> t.contains(bound)));
        }
    }
}
