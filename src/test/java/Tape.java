import java.util.ArrayList;
import java.util.List;

/** A ring that keeps its calls, so that they can be played again on a new one. It has the document's face. */
final class Tape {
    /** For more calls of one object the document promises nothing. */
    static final int MOST_CALLS = 512;

    private final CypherRing ring = new CypherRing();
    private final List<Step> steps = new ArrayList<>();

    int length() {
        return steps.size();
    }

    /** A new ring behind the first calls of this one. */
    CypherRing played(int calls) {
        CypherRing other = new CypherRing();
        for (Step step : steps.subList(0, calls)) {
            step.answerOn(other);
        }
        return other;
    }

    /** The model behind the same calls. */
    Model playedOn(Model model) {
        for (Step step : steps) {
            step.answerOn(model);
        }
        return model;
    }

    /** Another tape behind the same calls. */
    Tape copy() {
        Tape copy = new Tape();
        for (Step step : steps) {
            Check.result(() -> copy.play(step));
        }
        return copy;
    }

    Object play(Step step) {
        if (steps.size() == MOST_CALLS) {
            throw new AssertionError("a test goes beyond " + MOST_CALLS + " calls of one ring");
        }
        steps.add(step);
        return step.on(ring);
    }

    /** Plays a step that is told as a text: "say(0, 25)". */
    Object play(String step) {
        return play(Step.of(step));
    }

    private int number(String name, Object... args) {
        return (int) play(new Step(name, args));
    }

    private char sign(String name, Object... args) {
        return (char) play(new Step(name, args));
    }

    private boolean truth(String name, Object... args) {
        return (boolean) play(new Step(name, args));
    }

    int addSyllable(int onset, int vowel, int coda, boolean isStressed) {
        return number("addSyllable", onset, vowel, coda, isStressed);
    }

    int clearSyllables() {
        return number("clearSyllables");
    }

    int addWord(int language, int topic) {
        return number("addWord", language, topic);
    }

    int syllables(int word) {
        return number("syllables", word);
    }

    int setAccent(int region, int vowel, int as) {
        return number("setAccent", region, vowel, as);
    }

    char rhyme(int word, int other, int region) {
        return sign("rhyme", word, other, region);
    }

    int near(int word, int other, int region) {
        return number("near", word, other, region);
    }

    int bestRhyme(int word, int region) {
        return number("bestRhyme", word, region);
    }

    int setBeat(int tempo, int pocket) {
        return number("setBeat", tempo, pocket);
    }

    int barTime() {
        return number("barTime");
    }

    int addPerformer(int style) {
        return number("addPerformer", style);
    }

    int rating(int performer) {
        return number("rating", performer);
    }

    int tier(int performer) {
        return number("tier", performer);
    }

    int money(int performer) {
        return number("money", performer);
    }

    int challenge(int performer, int other, int purse) {
        return number("challenge", performer, other, purse);
    }

    int refuse() {
        return number("refuse");
    }

    int begin(int rounds, int bars) {
        return number("begin", rounds, bars);
    }

    boolean isOn() {
        return truth("isOn");
    }

    int barTopic(int topic) {
        return number("barTopic", topic);
    }

    int side() {
        return number("side");
    }

    int round() {
        return number("round");
    }

    int say(int word, int at) {
        return number("say", word, at);
    }

    int closeBar() {
        return number("closeBar");
    }

    int choke() {
        return number("choke");
    }

    int restart() {
        return number("restart");
    }

    int bars() {
        return number("bars");
    }

    int wordAt(int bar, int index) {
        return number("wordAt", bar, index);
    }

    int landings(int bar) {
        return number("landings", bar);
    }

    int answers(int bar) {
        return number("answers", bar);
    }

    int chain(int bar, int other, int region) {
        return number("chain", bar, other, region);
    }

    boolean wasHeard(int bar) {
        return truth("wasHeard", bar);
    }

    int languages(int bar) {
        return number("languages", bar);
    }

    int firstUser(int word) {
        return number("firstUser", word);
    }

    int read() {
        return number("read");
    }

    int addJudge(int weights, int leaning) {
        return number("addJudge", weights, leaning);
    }

    int marks(int round, int side, int what, int region) {
        return number("marks", round, side, what, region);
    }

    int card(int judge, int round, int region) {
        return number("card", judge, round, region);
    }

    char isFor(int judge, int region) {
        return sign("isFor", judge, region);
    }

    char crowd(int region) {
        return sign("crowd", region);
    }

    int decide(int region) {
        return number("decide", region);
    }

    int addSample(int source, int tenths, int likeness) {
        return number("addSample", source, tenths, likeness);
    }

    boolean needsClearing(int sample) {
        return truth("needsClearing", sample);
    }

    int clear(int sample, int performer) {
        return number("clear", sample, performer);
    }

    int paid(int source) {
        return number("paid", source);
    }

    long elapsed() {
        return (long) play(new Step("elapsed"));
    }

    long checksum() {
        return (long) play(new Step("checksum"));
    }

    float landedShare() {
        return (float) play(new Step("landedShare"));
    }

    double meanRating() {
        return (double) play(new Step("meanRating"));
    }

    boolean isSound() {
        return truth("isSound");
    }
}
