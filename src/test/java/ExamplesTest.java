/** The three examples of the document. */
public final class ExamplesTest {
    public static void main(String[] args) {
        rhymeExample();
        battleExample();
        sampleExample();
        Check.end();
    }

    private static void rhymeExample() {
        CypherRing x = new CypherRing();
        Check.due("addSyllable", 1, () -> x.addSyllable(1, 2, 3, true));
        Check.due("addWord", 0, () -> x.addWord(0, 0));
        Check.due("addSyllable", 1, () -> x.addSyllable(4, 2, 3, true));
        Check.due("addWord", 1, () -> x.addWord(0, 0));
        Check.due("rhyme", 'p', () -> x.rhyme(0, 1, 0));
        Check.due("near", 0, () -> x.near(0, 1, 0));
    }

    private static void battleExample() {
        CypherRing x = new CypherRing();
        Check.due("addSyllable", 1, () -> x.addSyllable(1, 0, 1, true));
        Check.due("addWord", 0, () -> x.addWord(0, 0));
        Check.due("addPerformer", 0, () -> x.addPerformer(0));
        Check.due("addPerformer", 1, () -> x.addPerformer(0));
        Check.due("challenge", 0, () -> x.challenge(0, 1, 10));
        Check.due("begin", 1, () -> x.begin(1, 1));
        Check.due("say", 1, () -> x.say(0, 100));
        Check.due("closeBar", 0, () -> x.closeBar());
        Check.due("landings", 1, () -> x.landings(0));
        Check.due("firstUser", 1, () -> x.firstUser(0));
    }

    private static void sampleExample() {
        CypherRing x = new CypherRing();
        Check.due("addSample", 0, () -> x.addSample(2, 10, 60));
        Check.due("needsClearing", true, () -> x.needsClearing(0));
        Check.due("addPerformer", 0, () -> x.addPerformer(0));
        Check.due("clear", 60, () -> x.clear(0, 0));
        Check.due("paid", 60, () -> x.paid(2));
    }
}
