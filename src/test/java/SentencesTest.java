import java.io.IOException;
import java.lang.reflect.Method;
import java.util.ArrayList;
import java.util.Arrays;
import java.util.HashSet;
import java.util.List;
import java.util.Set;
import java.util.TreeMap;
import java.util.regex.Matcher;
import java.util.regex.Pattern;

/** Each sentence of the document that names a boundary has a test of its own. */
final class SentencesTest {
    private static final List<Class<?>> TESTS = Arrays.asList(TermsCuesTest.class,
        TermsPlayingTest.class, TermsTextsTest.class, TermsPreciselyTest.class,
        BoundsCuesTest.class, BoundsLevelsTest.class, BoundsPlayingTest.class,
        BoundsTextsTest.class);

    /** What names no boundary; what it tells is tested beside the others. */
    private static final Set<String> WITHOUT_BOUNDARY = new HashSet<>(Arrays.asList(
        "The order is this:",
        "Adds a cue.",
        "Returns the number of a cue.",
        "Returns the number.",
        "Sets the follow time of a cue.",
        "Makes a cue a block, or not.",
        "Makes a cue protected, or not.",
        "Sets the delay or the time of a part of a cue.",
        "Returns a number of a cue.",
        "Returns the delay or the time of a part of a cue.",
        "Sets the home level of a channel.",
        "Gives an instruction with a level.",
        "Gives an instruction that is a release.",
        "Takes an instruction away.",
        "Returns a number of an instruction.",
        "Returns the level of a channel in a cue.",
        "Returns the level.",
        "Returns the source of the level of a channel in a cue.",
        "Returns the number of the cue.",
        "Returns the sum.",
        "Lets the next cue go.",
        "Lets time pass.",
        "Returns a present level.",
        "Returns a target.",
        "Returns a number about playing.",
        "Returns an account.",
        "Returns the account.",
        "Returns the mean.",
        "Appends a character to the input.",
        "Returns the error position.",
        "Restores what was saved."));

    public static void main(String[] args) throws IllegalAccessException {
        Checks.runAll(SentencesTest.class);
    }

    /** The sentences of the part "Terms", by 0, and of the promises, by their numbers. */
    private static TreeMap<Integer, List<String>> sentences() throws IOException {
        TreeMap<Integer, List<String>> found = new TreeMap<>();
        for (String part : Document.text().split("(?m)^## ")) {
            int end = part.indexOf('\n');
            String title = end < 0 ? part : part.substring(0, end);
            Matcher promise = Pattern.compile("Promise (\\d+): .*").matcher(title);
            if (title.equals("Terms")) {
                found.put(0, clausesOfTerms(part.substring(end)));
            } else if (promise.matches()) {
                found.put(Integer.parseInt(promise.group(1)),
                    sentencesOfPromise(part.substring(end)));
            }
        }
        return found;
    }

    /** What stands between full stops, semicolons and colons, without the headings. */
    private static List<String> clausesOfTerms(String part) {
        List<String> found = new ArrayList<>();
        for (String paragraph : part.strip().split("\\n\\s*\\n")) {
            String text = Document.inOneLine(paragraph);
            if (!text.startsWith("Ahead of the calls")) {
                String behindHeading = text.replaceFirst("^[A-Z][a-z]*( [a-z]+){0,2}\\. ", "");
                found.addAll(Arrays.asList(behindHeading.split("(?<=[.;:]) ")));
            }
        }
        return found;
    }

    /** The bullets that tell no number only name a parameter. */
    private static List<String> sentencesOfPromise(String part) {
        List<String> found = new ArrayList<>();
        for (String paragraph : part.strip().split("\\n\\s*\\n|\\n(?=- )")) {
            String text = Document.inOneLine(paragraph);
            if (text.startsWith("- ")) {
                if (text.matches(".*\\d.*")) {
                    found.add(text.substring(2));
                }
            } else {
                String behindFace = text.replaceFirst("^`[^`]*\\([^`]*`: ", "");
                found.addAll(Arrays.asList(behindFace.split("(?<=[.]) (?=[A-Z])")));
            }
        }
        return found;
    }

    private static List<Says> quotes() {
        List<Says> found = new ArrayList<>();
        for (Class<?> tests : TESTS) {
            for (Method method : tests.getDeclaredMethods()) {
                Says quote = method.getAnnotation(Says.class);
                if (quote != null) {
                    found.add(quote);
                }
            }
        }
        return found;
    }

    private static boolean isThere() {
        Checks.due("there are tests of sentences", quotes().isEmpty(), false);
        return Document.isThere();
    }

    static void promise01To38TestsQuoteTheDocument() throws IOException {
        if (!isThere()) {
            return;
        }
        TreeMap<Integer, List<String>> sentences = sentences();
        Set<String> all = new HashSet<>();
        for (Says quote : quotes()) {
            String part = String.join(" ", sentences.get(quote.promise()));
            String says = "promise " + quote.promise() + " says: " + quote.value();
            Checks.due(says, part.contains(quote.value()), true);
            Checks.due("one test alone: " + says, all.add(says), true);
        }
        for (String sentence : WITHOUT_BOUNDARY) {
            Checks.due("there is: " + sentence, sentences.values().stream()
                .anyMatch(part -> part.contains(sentence)), true);
        }
    }

    static void promise01To38SentencesHaveTests() throws IOException {
        if (!isThere()) {
            return;
        }
        TreeMap<Integer, List<String>> sentences = sentences();
        Checks.due("parts", sentences.size(), 39);
        List<Says> quotes = quotes();
        for (int promise : sentences.keySet()) {
            for (String sentence : sentences.get(promise)) {
                boolean isTested = WITHOUT_BOUNDARY.contains(sentence);
                for (Says quote : quotes) {
                    isTested |= quote.promise() == promise
                        && (sentence.contains(quote.value()) || quote.value().contains(sentence));
                }
                Checks.due("promise " + promise + " has a test of: " + sentence, isTested, true);
            }
        }
    }
}
