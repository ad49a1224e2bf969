import java.util.ArrayList;
import java.util.List;

/**
 * Each call with each mix of numbers at the ends of their ranges, and next to them, in each of many states: it answers
 * as the model does, so that of several exceptions the right one is thrown, and if it throws it changes nothing.
 */
public final class EdgesTest {
    private static final String[] NO_STEPS = {};
    private static final String[] ONE_UNSTRESSED = {"addSyllable(0, 0, 0, false)"};
    private static final String[] FOUR_SYLLABLES = {"addSyllable(9, 7, 9, false)", "addSyllable(1, 1, 1, true)",
        "addSyllable(1, 1, 1, false)", "addSyllable(0, 0, 0, false)"};
    private static final String[] TWO_WORDS = {"addSyllable(1, 0, 1, true)", "addWord(0, 0)",
        "addSyllable(2, 0, 1, true)", "addSyllable(2, 1, 1, false)", "addWord(1, 9)", "setAccent(3, 0, 7)",
        "addPerformer(0)", "addPerformer(2)", "addJudge(1111, -1)", "addSample(0, 5, 100)", "addSample(9, 99, 100)"};
    private static final String[] CHALLENGE = {"challenge(0, 1, 99999)"};
    private static final String[] THREE_DODGES = {"challenge(0, 1, 5)", "refuse()", "challenge(0, 1, 5)", "refuse()",
        "challenge(0, 1, 5)", "refuse()"};
    private static final String[] BATTLE = {"challenge(0, 1, 11)", "begin(2, 2)"};
    private static final String[] TOPICS = {"barTopic(0)", "barTopic(3)"};
    private static final String[] OPEN_BAR = {"say(1, 0)", "say(1, 60)"};
    private static final String[] FIRST_TURN = {"say(0, 0)", "closeBar()", "say(1, 20)", "say(0, 100)", "closeBar()"};
    private static final String[] SECOND_TURN = {"say(1, 350)", "closeBar()", "say(0, 90)", "say(0, 375)",
        "closeBar()"};
    private static final String[] TWO_CHOKES = {"choke()", "choke()"};
    private static final String[] DECISION = {"decide(0)"};

    private static final String[] RICH = {"setAccent(3, 0, 7)", "clear(1, 1)", "challenge(9, 0, 5)", "refuse()",
        "setBeat(120, 7)", "challenge(0, 1, 11)", "begin(1, 2)", "say(0, 0)", "closeBar()", "say(1, 20)", "say(2, 100)",
        "closeBar()", "say(3, 0)", "closeBar()", "choke()", "decide(0)", "challenge(1, 0, 13)", "begin(2, 2)",
        "barTopic(9)", "barTopic(7)", "say(4, 0)", "restart()", "say(3, 0)", "closeBar()", "read()", "say(5, 0)"};
    private static final String[] RICH_SECOND_TURN = {"closeBar()", "say(5, 0)", "say(2, 90)"};
    private static final String[] RICH_END = {"restart()", "say(2, 0)", "closeBar()", "choke()", "choke()", "choke()"};

    private static final int[] REGION = around(0, 3);
    private static final int[] DIGIT = around(0, 9);
    private static final int[] VOWEL = around(0, 7);
    private static final int[] TRUTH = {0, 1};
    private static final int[] WORD = {-1, 0, 1, 2, 23, 24};
    private static final int[] PERFORMER = {-1, 0, 1, 2, 9, 10};
    private static final int[] BAR = {-1, 0, 1, 2, 3, 4, 23, 24};
    private static final int[] ROUND = {Integer.MIN_VALUE, -1, 0, 1, 2, 3, Integer.MAX_VALUE};
    private static final int[] PLACE = {-1, 0, 24, 25, 49, 50, 109, 110, 350, 351, 375, 376, 399, 400};

    private final Tape base = new Tape();
    private final String state;
    private Tape refused;
    private Model model;

    private EdgesTest(String state, String[]... steps) {
        this.state = state;
        for (String[] some : steps) {
            for (String step : some) {
                base.play(step);
            }
        }
        refused = base.copy();
        model = base.playedOn(new Model());
    }

    public static void main(String[] args) {
        words();
        leagues();
        firstTurns();
        laterTurns();
        richStates();
        Check.end();
    }

    private static void words() {
        new EdgesTest("a new object", NO_STEPS).playAll();
        new EdgesTest("one unstressed", ONE_UNSTRESSED).playAll();
        new EdgesTest("four syllables", FOUR_SYLLABLES).playAll();
        new EdgesTest("two words", TWO_WORDS).playAll();
        new EdgesTest("all places taken", allTaken(24), ONE_UNSTRESSED).playAll();
        new EdgesTest("all places taken, and a word is made", allTaken(24), FOUR_SYLLABLES).playAll();
    }

    private static void leagues() {
        new EdgesTest("a challenge", TWO_WORDS, CHALLENGE).playAll();
        new EdgesTest("three dodges", TWO_WORDS, THREE_DODGES).playAll();
        new EdgesTest("three dodges and a challenge", TWO_WORDS, THREE_DODGES, CHALLENGE).playAll();
        new EdgesTest("a sample cleared", TWO_WORDS, new String[] {"clear(1, 1)"}).playAll();
    }

    private static void firstTurns() {
        new EdgesTest("a battle", TWO_WORDS, BATTLE).playAll();
        new EdgesTest("topics barred", TWO_WORDS, BATTLE, TOPICS).playAll();
        new EdgesTest("an open bar", TWO_WORDS, BATTLE, OPEN_BAR).playAll();
        new EdgesTest("begun anew", TWO_WORDS, BATTLE, OPEN_BAR, new String[] {"restart()"}).playAll();
        new EdgesTest("a bar closed", TWO_WORDS, BATTLE, OPEN_BAR, new String[] {"closeBar()"}).playAll();
        new EdgesTest("a bar closed, one open", TWO_WORDS, BATTLE, OPEN_BAR, new String[] {"closeBar()"}, OPEN_BAR)
                .playAll();
    }

    private static void laterTurns() {
        new EdgesTest("second turn", TWO_WORDS, BATTLE, FIRST_TURN).playAll();
        new EdgesTest("second turn, an open bar", TWO_WORDS, BATTLE, FIRST_TURN, OPEN_BAR).playAll();
        new EdgesTest("second round", TWO_WORDS, BATTLE, FIRST_TURN, SECOND_TURN).playAll();
        new EdgesTest("last turn", TWO_WORDS, BATTLE, FIRST_TURN, SECOND_TURN, FIRST_TURN).playAll();
        new EdgesTest("waiting", TWO_WORDS, BATTLE, FIRST_TURN, SECOND_TURN, TWO_CHOKES).playAll();
        new EdgesTest("decided", TWO_WORDS, BATTLE, FIRST_TURN, SECOND_TURN, TWO_CHOKES, DECISION).playAll();
        new EdgesTest("the next challenge", TWO_WORDS, BATTLE, FIRST_TURN, SECOND_TURN, TWO_CHOKES, DECISION,
                CHALLENGE).playAll();
        new EdgesTest("the next battle", TWO_WORDS, BATTLE, FIRST_TURN, SECOND_TURN, TWO_CHOKES, DECISION, BATTLE)
                .playAll();
        new EdgesTest("bars that were heard", TWO_WORDS, BATTLE, FIRST_TURN, SECOND_TURN, TWO_CHOKES, DECISION, BATTLE,
                FIRST_TURN, new String[] {"read()"}).playAll();
    }

    /** All places taken, or all but a word's; a word that is made, a second battle: much that could be changed. */
    private static void richStates() {
        String[] all = allTaken(23);
        new EdgesTest("rich, first turn", all, FOUR_SYLLABLES, RICH).playAll();
        new EdgesTest("rich, second turn", allTaken(24), FOUR_SYLLABLES, RICH, RICH_SECOND_TURN).playAll();
        new EdgesTest("rich, waiting", all, FOUR_SYLLABLES, RICH, RICH_SECOND_TURN, RICH_END).playAll();
        new EdgesTest("rich, decided", all, ONE_UNSTRESSED, RICH, RICH_SECOND_TURN, RICH_END, DECISION).playAll();
        new EdgesTest("rich, the next challenge", all, FOUR_SYLLABLES, RICH, RICH_SECOND_TURN, RICH_END, DECISION,
                CHALLENGE).playAll();
    }

    /** Words, and as many performers, judges and samples as there can be. */
    private static String[] allTaken(int words) {
        List<String> steps = new ArrayList<>();
        for (int i = 0; i < words; i++) {
            steps.add("addSyllable(" + i % 10 + ", " + i % 8 + ", 0, true)");
            steps.add("addWord(0, " + i % 10 + ")");
        }
        for (int i = 0; i < 10; i++) {
            steps.add("addPerformer(" + i % 3 + ")");
            steps.add("addSample(" + i + ", 99, 100)");
        }
        for (int i = 0; i < 5; i++) {
            steps.add("addJudge(9999, 20)");
        }
        return steps.toArray(new String[0]);
    }

    /** The least and the greatest number of a range, those next to it, and those farthest out of it. */
    private static int[] around(int low, int high) {
        return new int[] {Integer.MIN_VALUE, low - 1, low, high, high + 1, Integer.MAX_VALUE};
    }

    private void playAll() {
        playWords();
        playLeague();
        playBattle();
        playCards();
        play("addSample", DIGIT, around(1, 99), around(0, 100));
        play("needsClearing", PERFORMER);
        play("clear", PERFORMER, PERFORMER);
        play("paid", DIGIT);
        for (String figure : new String[] {"elapsed", "checksum", "landedShare", "meanRating", "isSound"}) {
            play(figure);
        }
        checkRefused();
    }

    private void playWords() {
        play("addSyllable", DIGIT, VOWEL, DIGIT, TRUTH);
        play("clearSyllables");
        play("addWord", around(0, 2), DIGIT);
        play("syllables", WORD);
        play("setAccent", REGION, VOWEL, VOWEL);
        play("rhyme", WORD, WORD, REGION);
        play("near", WORD, WORD, REGION);
        play("bestRhyme", WORD, REGION);
        play("setBeat", around(60, 180), around(0, 49));
        play("barTime");
    }

    private void playLeague() {
        play("addPerformer", around(0, 2));
        play("rating", PERFORMER);
        play("tier", PERFORMER);
        play("money", PERFORMER);
        play("challenge", PERFORMER, PERFORMER, around(0, 99999));
        play("refuse");
        play("begin", around(1, 3), around(1, 4));
    }

    private void playBattle() {
        for (String name : new String[] {"isOn", "side", "round", "closeBar", "choke", "restart", "bars", "read"}) {
            play(name);
        }
        play("barTopic", new int[] {-1, 0, 1, 3, 9, 10});
        play("say", WORD, PLACE);
        play("wordAt", BAR, new int[] {-1, 0, 1, 2, 15, 16});
        play("landings", BAR);
        play("answers", BAR);
        play("chain", BAR, BAR, REGION);
        play("wasHeard", BAR);
        play("languages", BAR);
        play("firstUser", WORD);
    }

    private void playCards() {
        int[] judge = {-1, 0, 1, 4, 5};
        play("addJudge", around(0, 9999), around(-20, 20));
        play("marks", ROUND, around(0, 1), new int[] {-1, 0, 1, 2, 3, 4}, REGION);
        play("card", judge, ROUND, REGION);
        play("isFor", judge, REGION);
        play("crowd", REGION);
        play("decide", REGION);
    }

    /** A call with each mix of these numbers. */
    private void play(String name, int[]... edges) {
        int mixes = 1;
        for (int[] some : edges) {
            mixes *= some.length;
        }
        for (int mix = 0; mix < mixes; mix++) {
            int rest = mix;
            Object[] args = new Object[edges.length];
            for (int i = 0; i < edges.length; i++) {
                int number = edges[i][rest % edges[i].length];
                args[i] = edges[i] == TRUTH ? number == 1 : (Object) number;
                rest /= edges[i].length;
            }
            play(new Step(name, args));
        }
    }

    private void play(Step step) {
        String want = step.answerOn(model);
        boolean isRefused = want.startsWith("throws.");
        if (!isRefused) {
            model = base.playedOn(new Model());
        }
        Tape tape = isRefused ? refused : base.copy();
        Check.due(state + ": " + step, want, () -> tape.play(step));
        if (refused.length() > base.length() + 200) {
            checkRefused();
        }
    }

    /** None of the calls that were refused has changed anything. */
    private void checkRefused() {
        Check.due(state + ": refused calls change", Probe.NOTHING,
                () -> Probe.change(base, base.length(), refused, refused.length()));
        refused = base.copy();
    }
}
