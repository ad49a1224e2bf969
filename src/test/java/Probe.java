import java.util.ArrayList;
import java.util.List;

/**
 * Asks a ring for all that it holds, also for what only later calls tell: a challenge that waits, the word that is
 * made, the open bar, what was read. Each script begins with the same calls on a ring of its own.
 */
final class Probe {
    static final String NOTHING = "nothing";

    private static final int[] PERFORMERS = {0, 1, 2, 3, 9};
    private static final List<List<Step>> SCRIPTS = List.of(words(), accents(), made(), league(), dodges(), offer(),
            nextBattle(), turn(), openBar(), begunAnew(), topics(), decision(), season(), styles(), bars(),
            wordsOfBars(), reading(), cards(), marks(), samples(), figures(), beat());

    private Probe() {
    }

    /** The first answer that the last call of a tape has changed, or "nothing". */
    static String changeByTheLast(Tape tape) {
        return change(tape, tape.length() - 1, tape, tape.length());
    }

    /** The first answer behind some calls of a tape that is another one behind those of another tape, or "nothing". */
    static String change(Tape before, int callsBefore, Tape behind, int callsBehind) {
        int room = Tape.MOST_CALLS - Math.max(callsBefore, callsBehind);
        for (List<Step> script : SCRIPTS) {
            List<Step> steps = script.subList(0, Math.min(room, script.size()));
            List<String> told = answers(before.played(callsBefore), steps);
            String change = difference(steps, told, answers(behind.played(callsBehind), steps));
            if (change.equals(NOTHING)) {
                // A step that is refused, too, might hide a change by doing just the same to both rings.
                List<Step> taken = taken(steps, told);
                change = difference(taken, answers(before.played(callsBefore), taken),
                        answers(behind.played(callsBehind), taken));
            }
            if (!change.equals(NOTHING)) {
                return change;
            }
        }
        return NOTHING;
    }

    private static List<String> answers(CypherRing ring, List<Step> steps) {
        List<String> answers = new ArrayList<>();
        for (Step step : steps) {
            answers.add(step.answerOn(ring));
        }
        return answers;
    }

    private static List<Step> taken(List<Step> steps, List<String> answers) {
        List<Step> taken = new ArrayList<>();
        for (int i = 0; i < steps.size(); i++) {
            if (!answers.get(i).startsWith("throws.")) {
                taken.add(steps.get(i));
            }
        }
        return taken;
    }

    private static String difference(List<Step> steps, List<String> before, List<String> behind) {
        for (int i = 0; i < steps.size(); i++) {
            if (!before.get(i).equals(behind.get(i))) {
                return steps.get(i) + ": " + behind.get(i) + " in place of " + before.get(i);
            }
        }
        return NOTHING;
    }

    private static List<Step> steps(String... calls) {
        List<Step> steps = new ArrayList<>();
        for (String call : calls) {
            steps.add(Step.of(call));
        }
        return steps;
    }

    private static List<Step> words() {
        List<Step> script = new ArrayList<>();
        for (int word = 0; word < 24; word++) {
            script.add(new Step("syllables", word));
            script.add(new Step("firstUser", word));
            script.add(new Step("rhyme", 0, word, 0));
            script.add(new Step("near", word, 1, 3));
        }
        return script;
    }

    private static List<Step> accents() {
        List<Step> script = new ArrayList<>();
        for (int region = 0; region < 4; region++) {
            for (int vowel = 0; vowel < 8; vowel++) {
                script.add(new Step("setAccent", region, vowel, vowel));
            }
        }
        return script;
    }

    /** The word that is made: its end as it is, and whether it is stressed. */
    private static List<Step> made() {
        List<Step> script = steps("addWord(0, 0)", "clearSyllables()", "addSyllable(0, 0, 0, true)", "addWord(0, 9)");
        for (int word = 0; word < 24; word++) {
            script.add(new Step("syllables", word));
            script.add(new Step("near", 0, word, 0));
        }
        return script;
    }

    private static List<Step> league() {
        List<Step> script = new ArrayList<>();
        for (int performer = 0; performer < 10; performer++) {
            script.add(new Step("rating", performer));
            script.add(new Step("tier", performer));
            script.add(new Step("money", performer));
        }
        script.addAll(steps("addPerformer(2)", "addJudge(1, 1)", "addSample(0, 6, 100)"));
        return script;
    }

    private static List<Step> dodges() {
        List<Step> script = ended();
        for (int challenger : PERFORMERS) {
            for (int other : PERFORMERS) {
                script.add(new Step("challenge", challenger, other, 0));
            }
        }
        return script;
    }

    private static List<Step> offer() {
        List<Step> script = steps("refuse()");
        for (int i = 0; i < 3; i++) {
            script.addAll(steps("challenge(0, 1, 0)", "refuse()"));
        }
        for (int performer : PERFORMERS) {
            script.add(new Step("tier", performer));
        }
        return script;
    }

    private static List<Step> nextBattle() {
        List<Step> script = steps("begin(2, 2)", "round()", "side()", "say(0, 0)", "closeBar()", "read()");
        script.addAll(ended());
        for (int performer : PERFORMERS) {
            script.add(new Step("money", performer));
        }
        return script;
    }

    private static List<Step> turn() {
        List<Step> script = new ArrayList<>();
        for (int turn = 0; turn < 6; turn++) {
            script.addAll(steps("isOn()", "side()", "round()", "choke()"));
        }
        return script;
    }

    private static List<Step> openBar() {
        List<Step> script = new ArrayList<>();
        for (int at = 0; at < 400; at += 25) {
            script.add(new Step("say", 0, at));
        }
        script.addAll(steps("closeBar()", "bars()"));
        script.addAll(wordsOfBars());
        return script;
    }

    /** Bars of many words by both sides, each of which begins its turn anew, if it can; the answers in them. */
    private static List<Step> begunAnew() {
        List<Step> script = new ArrayList<>();
        for (int side = 0; side < 2; side++) {
            script.add(new Step("restart"));
            for (int word = 0; word < 6; word++) {
                script.add(new Step("say", word, 50 * word));
            }
            script.addAll(steps("closeBar()", "choke()"));
        }
        script.add(new Step("restart"));
        script.addAll(bars());
        return script;
    }

    private static List<Step> topics() {
        List<Step> script = new ArrayList<>();
        for (int topic = 0; topic < 10; topic++) {
            script.add(new Step("barTopic", topic));
        }
        return script;
    }

    private static List<Step> decision() {
        List<Step> script = ended();
        script.addAll(league());
        script.addAll(steps("challenge(0, 1, 7)", "begin(1, 1)", "choke()", "choke()", "decide(0)"));
        script.addAll(steps("challenge(0, 1, 7)", "begin(1, 1)", "choke()", "choke()", "decide(0)"));
        script.addAll(steps("challenge(0, 1, 7)", "begin(1, 1)"));
        return script;
    }

    /** The next battle, and what is told of bars in it by the battles before and by the beat. */
    private static List<Step> season() {
        List<Step> script = ended();
        script.addAll(steps("challenge(0, 1, 7)", "begin(1, 2)", "say(0, 0)", "closeBar()", "wasHeard(0)", "say(1, 25)",
                "say(0, 109)", "closeBar()", "wasHeard(1)", "landings(1)", "choke()", "choke()", "decide(0)"));
        script.addAll(league());
        return script;
    }

    /** Ratings behind battles that the first side wins, by judges, if there is room for them, who lean to it. */
    private static List<Step> styles() {
        List<Step> script = ended();
        script.addAll(steps("addJudge(0, 20)", "addJudge(0, 20)"));
        for (int i = 0; i < 4; i++) {
            script.add(new Step("challenge", i % 2, 1 - i % 2, 3));
            script.addAll(steps("begin(1, 1)", "choke()", "choke()", "decide(0)", "rating(0)", "rating(1)"));
        }
        return script;
    }

    private static List<Step> bars() {
        List<Step> script = steps("bars()");
        for (int bar = 0; bar < 24; bar++) {
            script.add(new Step("landings", bar));
            script.add(new Step("answers", bar));
            script.add(new Step("wasHeard", bar));
            script.add(new Step("languages", bar));
            script.add(new Step("chain", 0, bar, 0));
        }
        return script;
    }

    private static List<Step> wordsOfBars() {
        List<Step> script = new ArrayList<>();
        for (int bar = 0; bar < 8; bar++) {
            for (int index = 0; index < 5; index++) {
                script.add(new Step("wordAt", bar, index));
            }
        }
        return script;
    }

    private static List<Step> reading() {
        List<Step> script = new ArrayList<>();
        for (int i = 0; i < 20; i++) {
            script.add(new Step("read"));
        }
        return script;
    }

    private static List<Step> cards() {
        List<Step> script = new ArrayList<>();
        for (int region = 0; region < 4; region++) {
            script.add(new Step("crowd", region));
            for (int judge = 0; judge < 5; judge++) {
                script.add(new Step("isFor", judge, region));
                for (int round = 0; round < 3; round++) {
                    script.add(new Step("card", judge, round, region));
                }
            }
        }
        return script;
    }

    private static List<Step> marks() {
        List<Step> script = new ArrayList<>();
        for (int turn = 0; turn < 6; turn++) {
            for (int what = 0; what < 4; what++) {
                script.add(new Step("marks", turn / 2, turn % 2, what, 0));
            }
        }
        return script;
    }

    private static List<Step> samples() {
        List<Step> script = new ArrayList<>();
        for (int sample = 0; sample < 10; sample++) {
            script.add(new Step("needsClearing", sample));
            script.add(new Step("paid", sample));
            script.add(new Step("clear", sample, 0));
            script.add(new Step("paid", sample));
        }
        return script;
    }

    private static List<Step> figures() {
        return steps("elapsed()", "checksum()", "landedShare()", "meanRating()", "isSound()", "barTime()", "isOn()");
    }

    private static List<Step> beat() {
        List<Step> script = ended();
        script.addAll(steps("barTime()", "setBeat(60, 0)", "barTime()"));
        return script;
    }

    /** The end of the battle that goes on, if there is one. */
    private static List<Step> ended() {
        return steps("choke()", "choke()", "choke()", "choke()", "choke()", "choke()", "decide(0)");
    }
}
