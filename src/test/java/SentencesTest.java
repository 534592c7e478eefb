import java.lang.reflect.Method;
import java.util.HashSet;
import java.util.List;
import java.util.Set;

/** Each sentence of the document has a test of its own, but for those that only name something or repeat a sentence. */
final class SentencesTest {
    private static final List<Class<?>> TESTS = List.of(TermsTest.class, TermsOfChangesTest.class, ChangesTest.class,
            StationsTest.class, CardsTest.class, TotalsTest.class, OutputTest.class);

    /** Sentences of the Terms that say nothing that a call could break. */
    private static final Set<String> NOTHING_TO_BREAK = Set.of(
            "The class computes zone counts and daily totals in two ways each and offers predictions, rankings, a small "
                    + "command language, undo and a snapshot.",
            "It is not thread-safe.",
            "Stations and zones.", "Fares.", "Cards.", "Time.", "Trips.", "Transfers.", "Caps.", "Repairs.", "Scripts.",
            "Changes.", "Exceptions.",
            "Money is counted in cents.",
            "It has the form below, where braces mean zero or more repetitions, brackets an optional part, and a bar an "
                    + "alternative.");

    /** Sentences of promises that repeat the sentence before them in fewer words. */
    private static final Set<String> REPEATED = Set.of(
            "Returns the number of minutes.", "Returns the zone.", "Returns the zone count.", "Returns the fare.",
            "Returns the default fare.", "Returns the number of taps.", "Returns the station.",
            "Returns true if it is reduced.", "Returns true if it is on a trip.", "Returns the cents.",
            "Returns true if it can be repaired.", "Returns the number of trips.", "Returns the mean charge.",
            "Returns the bits of meanCharge.", "Returns the share.", "Returns the bits of incompleteShare.",
            "Returns the character.", "Returns the error position.");

    private SentencesTest() { }

    public static void main(String[] args) {
        Check check = new Check();
        Set<Document.Sentence> said = said(check);
        Set<Document.Sentence> written = new HashSet<>(Document.sentences());
        for (Document.Sentence sentence : Document.sentences()) {
            check.same("has a test: " + sentence, true, said.contains(sentence) || isLeftOut(sentence));
        }
        for (Document.Sentence sentence : said) {
            check.same("stands in the document: " + sentence, true, written.contains(sentence));
        }
        check.finish("SentencesTest");
    }

    private static Set<Document.Sentence> said(Check check) {
        Set<Document.Sentence> said = new HashSet<>();
        for (Class<?> tests : TESTS) {
            for (Method test : tests.getDeclaredMethods()) {
                Says says = test.getAnnotation(Says.class);
                if (says != null) {
                    Document.Sentence sentence = new Document.Sentence(says.promise(), says.value());
                    check.same("one test for " + sentence, true, said.add(sentence));
                }
            }
        }
        return said;
    }

    private static boolean isLeftOut(Document.Sentence sentence) {
        boolean isOfTerms = sentence.promise() == Document.TERMS;
        if (sentence.text().startsWith("Throws")) {
            return false;
        }
        return isOfTerms ? NOTHING_TO_BREAK.contains(sentence.text()) : REPEATED.contains(sentence.text());
    }
}
