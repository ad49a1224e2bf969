import java.util.NoSuchElementException;

/** Promises 36 to 41: judges, marks, cards, the crowd and decisions. */
public final class CardsTest {
    private static final Class<?> RANGE = IllegalArgumentException.class;
    private static final Class<?> STATE = IllegalStateException.class;
    private static final Class<?> INDEX = IndexOutOfBoundsException.class;
    private static final Class<?> NONE = NoSuchElementException.class;

    public static void main(String[] args) {
        addJudge();
        marksOfRhymes();
        marksOfRhymesNextToEachOther();
        marksOfLandings();
        marksOfAnswers();
        marksOfChains();
        marksWithoutBarsThatWereHeard();
        marksOfTurns();
        marksThrows();
        card();
        cardThrows();
        isForMoreRounds();
        isForTheGreaterSum();
        isForThrows();
        crowd();
        crowdWeighsAllAlike();
        crowdThrows();
        decide();
        decideThrows();
        decideByMore();
        decideDrawn();
        decideStyles();
        decideRatings();
        decideRatingsAtTheLimits();
        decideTiers();
        Check.end();
    }

    /** Two performers, 1 being first, in a battle with a pocket of 0. */
    private static CypherRing battle(CypherRing x, int rounds, int bars) {
        Ring.performers(x, 0, 0);
        x.setBeat(90, 0);
        x.challenge(0, 1, 0);
        x.begin(rounds, bars);
        return x;
    }

    private static void one(CypherRing x, int word, int at) {
        x.say(word, at);
        x.closeBar();
    }

    /** Ends the turn that has been begun, the first side's landings in it being as many as told, the other's none. */
    private static void turnWithLandings(CypherRing x, int landings) {
        if (landings == 0) {
            x.choke();
            return;
        }
        for (int i = 0; i < landings; i++) {
            x.say(0, 100 * i);
        }
        x.closeBar();
    }

    /** A battle of rounds of one bar, in which landings alone tell: for each round those of both sides. */
    private static CypherRing rounds(int... landings) {
        CypherRing x = new CypherRing();
        Ring.word(x, 1111);
        Ring.performers(x, 0, 0);
        x.challenge(0, 1, 0);
        x.begin(landings.length / 2, 1);
        for (int count : landings) {
            turnWithLandings(x, count);
        }
        return x;
    }

    private static void addJudge() {
        CypherRing x = new CypherRing();
        Check.dueThrow(x, "36 weights -1", RANGE, () -> x.addJudge(-1, 0));
        Check.dueThrow(x, "36 weights 10000", RANGE, () -> x.addJudge(10000, 0));
        Check.dueThrow(x, "36 leaning -21", RANGE, () -> x.addJudge(0, -21));
        Check.dueThrow(x, "36 leaning 21", RANGE, () -> x.addJudge(0, 21));
        Check.due("36 first", 0, () -> x.addJudge(0, -20));
        Check.due("36 second", 1, () -> x.addJudge(9999, 20));
        for (int i = 2; i < 5; i++) {
            Check.due("36 next", i, () -> x.addJudge(1234, 0));
        }
        Check.dueThrow(x, "36 the sixth", STATE, () -> x.addJudge(0, 0));
        Check.dueThrow(x, "36 range ahead of too many", RANGE, () -> x.addJudge(0, 21));
    }

    private static CypherRing withRhymes() {
        CypherRing x = new CypherRing();
        Ring.word(x, 1011);
        Ring.word(x, 2011);
        Ring.word(x, 2021);
        Ring.word(x, 2321);
        Ring.word(x, 2721);
        return x;
    }

    private static void marksOfRhymes() {
        int[][] pairs = {{0, 1, 3}, {0, 2, 2}, {2, 3, 1}, {0, 4, 0}, {0, 0, 0}, {3, 2, 1}};
        for (int[] pair : pairs) {
            CypherRing x = battle(withRhymes(), 1, 2);
            Ring.bar(x, 4, pair[0]);
            Check.due("37 one bar", 0, () -> x.marks(0, 0, 0, 0));
            Ring.bar(x, 4, pair[1]);
            Check.due("37 ends " + pair[0] + " and " + pair[1], pair[2], () -> x.marks(0, 0, 0, 0));
        }
        CypherRing x = battle(withRhymes(), 1, 3);
        Ring.bar(x, 0);
        Ring.bar(x, 4);
        Check.due("37 unlike ends", 0, () -> x.marks(0, 0, 0, 2));
        x.setAccent(2, 7, 0);
        Check.due("37 by the region", 2, () -> x.marks(0, 0, 0, 2));
        Check.due("37 by another region", 0, () -> x.marks(0, 0, 0, 1));
    }

    private static void marksOfRhymesNextToEachOther() {
        CypherRing x = battle(withRhymes(), 2, 4);
        Ring.bar(x, 0);
        Ring.bar(x, 1);
        Ring.bar(x, 0);
        Ring.bar(x, 2);
        Check.due("37 each bar behind another one", 3 + 3 + 2, () -> x.marks(0, 0, 0, 0));
        Ring.bar(x, 1);
        Check.due("37 not behind another turn", 0, () -> x.marks(0, 1, 0, 0));
        Ring.bar(x, 4);
        Ring.bar(x, 0);
        Check.due("37 not behind one that is not next to it", 0, () -> x.marks(0, 1, 0, 0));
        x.choke();
        Ring.bar(x, 0);
        Ring.bar(x, 1);
        Check.due("37 of another round", 3, () -> x.marks(1, 0, 0, 0));
        Check.due("37 of the round before", 8, () -> x.marks(0, 0, 0, 0));
    }

    private static void marksOfLandings() {
        CypherRing x = battle(Ring.withWords(1), 1, 2);
        x.say(0, 0);
        x.say(0, 100);
        x.say(0, 150);
        x.closeBar();
        one(x, 0, 300);
        one(x, 0, 200);
        x.say(0, 0);
        Check.due("37 landings of all bars", 3, () -> x.marks(0, 0, 1, 0));
        Check.due("37 landings of the other side", 1, () -> x.marks(0, 1, 1, 0));
    }

    private static void marksOfAnswers() {
        CypherRing x = battle(Ring.withWords(4), 2, 2);
        Ring.bar(x, 0, 1);
        Ring.bar(x, 2);
        Ring.bar(x, 0, 1, 3, 1);
        Ring.bar(x, 2, 0);
        Ring.bar(x, 3);
        Check.due("37 none to answer", 0, () -> x.marks(0, 0, 2, 0));
        Check.due("37 answers of all bars", 4, () -> x.marks(0, 1, 2, 0));
        Check.due("37 answers in the next round", 1, () -> x.marks(1, 0, 2, 0));
        Check.due("37 answers of a turn that is to come", 0, () -> x.marks(1, 1, 2, 0));
    }

    private static void marksOfChains() {
        CypherRing x = new CypherRing();
        for (int vowel = 0; vowel < 4; vowel++) {
            Ring.word(x, 1001 + 100 * vowel);
        }
        battle(x, 1, 4);
        Ring.bar(x, 0, 1, 2, 3);
        Check.due("37 no next bar", 0, () -> x.marks(0, 0, 3, 0));
        Ring.bar(x, 3, 2, 3);
        Ring.bar(x, 2, 2, 3);
        Ring.bar(x, 1, 3);
        Check.due("37 the longest, not the sum", 2, () -> x.marks(0, 0, 3, 0));
        Ring.bar(x, 1, 3);
        Ring.bar(x, 1, 3);
        Check.due("37 of this turn alone", 2, () -> x.marks(0, 1, 3, 0));
        Ring.bar(x, 0);
        Ring.bar(x, 0, 1, 3);
        Check.due("37 of one bar and the next one", 2, () -> x.marks(0, 1, 3, 0));
        x.setAccent(1, 2, 3);
        Check.due("37 by the region", 3, () -> x.marks(0, 0, 3, 1));
        Check.due("37 by another region", 2, () -> x.marks(0, 0, 3, 0));
        CypherRing y = battle(Ring.withWords(2), 1, 2);
        Ring.bar(y, 0);
        y.choke();
        Ring.bar(y, 0);
        Check.due("37 not with the other side's", 0, () -> y.marks(0, 0, 3, 0));
    }

    private static void marksWithoutBarsThatWereHeard() {
        CypherRing x = battle(withRhymes(), 1, 4);
        Ring.bar(x, 1);
        x.choke();
        Ring.bar(x, 0);
        x.choke();
        x.decide(0);
        x.challenge(0, 1, 0);
        x.begin(1, 4);
        one(x, 2, 0);
        one(x, 0, 0);
        one(x, 1, 100);
        one(x, 2, 100);
        one(x, 0, 0);
        x.say(2, 0);
        x.say(0, 25);
        x.closeBar();
        x.say(2, 0);
        x.say(1, 100);
        x.closeBar();
        Check.due("37 it was heard", true, () -> x.wasHeard(1));
        Check.due("37 it lands", 1, () -> x.landings(1));
        Check.due("37 it answers", 1, () -> x.answers(4));
        Check.due("37 no rhymes with them", 0, () -> x.marks(0, 0, 0, 0));
        Check.due("37 no landings of them", 2, () -> x.marks(0, 0, 1, 0));
        Check.due("37 no answers of them", 4, () -> x.marks(0, 1, 2, 0));
        Check.due("37 no chains with them", 0, () -> x.marks(0, 0, 3, 0));
        Check.due("37 rhymes of those that were not", 3, () -> x.marks(0, 1, 0, 0));
        Check.due("37 chains of those that were not", 2, () -> x.marks(0, 1, 3, 0));
    }

    private static void marksOfTurns() {
        CypherRing x = Ring.withWords(1);
        Ring.performers(x, 0, 0);
        Check.dueThrow(x, "37 no battle", NONE, () -> x.marks(0, 0, 0, 0));
        x.challenge(0, 1, 0);
        Check.dueThrow(x, "37 no battle yet", NONE, () -> x.marks(0, 0, 0, 0));
        x.begin(2, 2);
        Check.due("37 no bar yet", 0, () -> x.marks(1, 1, 1, 0));
        one(x, 0, 0);
        Check.due("37 bars closed by now", 1, () -> x.marks(0, 0, 1, 0));
        one(x, 0, 0);
        Check.due("37 bars closed by then", 2, () -> x.marks(0, 0, 1, 0));
        x.choke();
        x.choke();
        one(x, 0, 0);
        Check.due("37 second round, second side", 1, () -> x.marks(1, 1, 1, 0));
        x.choke();
        x.decide(0);
        Check.due("37 decided", 1, () -> x.marks(1, 1, 1, 3));
        x.challenge(0, 1, 0);
        Check.due("37 while a challenge waits", 1, () -> x.marks(1, 1, 1, 0));
        x.begin(1, 1);
        Check.due("37 of the new battle", 0, () -> x.marks(0, 0, 1, 0));
        Check.dueThrow(x, "37 the new one has fewer rounds", NONE, () -> x.marks(1, 1, 1, 0));
    }

    private static void marksThrows() {
        CypherRing x = battle(Ring.withWords(1), 2, 1);
        Check.dueThrow(x, "37 round -1", RANGE, () -> x.marks(-1, 0, 0, 0));
        Check.dueThrow(x, "37 side -1", RANGE, () -> x.marks(0, -1, 0, 0));
        Check.dueThrow(x, "37 side 2", RANGE, () -> x.marks(0, 2, 0, 0));
        Check.dueThrow(x, "37 what -1", RANGE, () -> x.marks(0, 0, -1, 0));
        Check.dueThrow(x, "37 what 4", RANGE, () -> x.marks(0, 0, 4, 0));
        Check.dueThrow(x, "37 region -1", RANGE, () -> x.marks(0, 0, 0, -1));
        Check.dueThrow(x, "37 region 4", RANGE, () -> x.marks(0, 0, 0, 4));
        Check.dueThrow(x, "37 round 2", NONE, () -> x.marks(2, 0, 0, 0));
        Check.dueThrow(x, "37 greatest round", NONE, () -> x.marks(Integer.MAX_VALUE, 1, 3, 3));
        Check.dueThrow(x, "37 range ahead of rounds", RANGE, () -> x.marks(2, 2, 0, 0));
        CypherRing y = new CypherRing();
        Check.dueThrow(y, "37 range ahead of no battle", RANGE, () -> y.marks(0, 0, 0, 4));
    }

    private static void card() {
        CypherRing x = battle(withRhymes(), 2, 2);
        x.addJudge(1000, 0);
        x.addJudge(200, 0);
        x.addJudge(30, 0);
        x.addJudge(4, 0);
        x.addJudge(5678, -9);
        one(x, 0, 0);
        one(x, 1, 10);
        x.say(3, 0);
        x.say(0, 100);
        x.closeBar();
        x.say(3, 300);
        x.closeBar();
        int[][] marks = {{3, 1, 0, 1}, {0, 3, 1, 0}};
        for (int side = 0; side < 2; side++) {
            for (int what = 0; what < 4; what++) {
                int s = side;
                int w = what;
                Check.due("37 for the card", marks[s][w], () -> x.marks(0, s, w, 0));
            }
        }
        Check.due("38 rhymes", 3, () -> x.card(0, 0, 0));
        Check.due("38 landings", -4, () -> x.card(1, 0, 0));
        Check.due("38 answers", -3, () -> x.card(2, 0, 0));
        Check.due("38 chains", 4, () -> x.card(3, 0, 0));
        Check.due("38 all and the leaning", 15 - 12 - 7 + 8 - 9, () -> x.card(4, 0, 0));
        Check.due("38 a round to come", -9, () -> x.card(4, 1, 0));
        x.setAccent(3, 3, 0);
        Check.due("38 by the region", 15 - 10 - 12 - 7 + 8 - 8 - 9, () -> x.card(4, 0, 3));
    }

    private static void cardThrows() {
        CypherRing x = new CypherRing();
        Check.dueThrow(x, "38 no judge", INDEX, () -> x.card(0, 0, 0));
        x.addJudge(1111, 0);
        Check.dueThrow(x, "38 no battle", NONE, () -> x.card(0, 0, 0));
        Ring.performers(x, 0, 0);
        x.challenge(0, 1, 0);
        x.begin(2, 1);
        Check.dueThrow(x, "38 judge 1", INDEX, () -> x.card(1, 0, 0));
        Check.dueThrow(x, "38 judge -1", INDEX, () -> x.card(-1, 0, 0));
        Check.dueThrow(x, "38 judge ahead of range", INDEX, () -> x.card(1, -1, 4));
        Check.dueThrow(x, "38 round -1", RANGE, () -> x.card(0, -1, 0));
        Check.dueThrow(x, "38 region 4", RANGE, () -> x.card(0, 0, 4));
        Check.dueThrow(x, "38 region -1", RANGE, () -> x.card(0, 0, -1));
        Check.dueThrow(x, "38 round 2", NONE, () -> x.card(0, 2, 0));
        Check.dueThrow(x, "38 range ahead of rounds", RANGE, () -> x.card(0, 2, 4));
    }

    private static void isForMoreRounds() {
        CypherRing x = rounds(1, 0, 1, 0, 0, 4);
        x.addJudge(100, 0);
        x.addJudge(100, -1);
        x.addJudge(100, -2);
        x.addJudge(9099, 0);
        x.addJudge(0, 1);
        Check.due("39 more rounds, not the greater sum", 'f', () -> x.isFor(0, 0));
        Check.due("39 fewer rounds by the leaning", 's', () -> x.isFor(1, 0));
        Check.due("39 no round by the leaning", 's', () -> x.isFor(2, 0));
        Check.due("39 by the answers", 's', () -> x.isFor(3, 0));
        Check.due("39 by the leaning alone", 'f', () -> x.isFor(4, 0));
    }

    private static void isForTheGreaterSum() {
        CypherRing x = rounds(1, 0, 0, 3, 2, 2);
        x.addJudge(100, 0);
        Check.due("39 as many rounds, the second side's sum", 's', () -> x.isFor(0, 0));
        CypherRing y = rounds(3, 0, 0, 1);
        y.addJudge(100, 0);
        Check.due("39 as many rounds, the first side's sum", 'f', () -> y.isFor(0, 0));
        CypherRing z = rounds(3, 0, 0, 3);
        z.addJudge(100, 0);
        z.addJudge(0, 0);
        z.addJudge(100, 1);
        Check.due("39 nobody", '-', () -> z.isFor(0, 0));
        Check.due("39 nobody without weights", '-', () -> z.isFor(1, 0));
        Check.due("39 the first side by the leaning", 'f', () -> z.isFor(2, 0));
    }

    private static void isForThrows() {
        CypherRing x = new CypherRing();
        Check.dueThrow(x, "39 no judge", INDEX, () -> x.isFor(0, 4));
        x.addJudge(1111, 1);
        Check.dueThrow(x, "39 no battle", NONE, () -> x.isFor(0, 0));
        Check.dueThrow(x, "39 region 4", RANGE, () -> x.isFor(0, 4));
        Check.dueThrow(x, "39 region -1", RANGE, () -> x.isFor(0, -1));
        Check.dueThrow(x, "39 judge -1", INDEX, () -> x.isFor(-1, 0));
        Check.dueThrow(x, "39 judge 1", INDEX, () -> x.isFor(1, 0));
        Ring.performers(x, 0, 0);
        x.challenge(0, 1, 0);
        Check.dueThrow(x, "39 no battle yet", NONE, () -> x.isFor(0, 0));
        x.begin(1, 1);
        Check.due("39 in a battle", 'f', () -> x.isFor(0, 0));
    }

    private static void crowd() {
        CypherRing x = rounds(1, 0, 0, 0, 0, 4);
        x.addJudge(1111, 0);
        Check.due("40 the first two rounds alone", 'f', () -> x.crowd(0));
        Check.due("40 a judge by all rounds", 's', () -> x.isFor(0, 0));
        Check.due("40 one round", 's', () -> rounds(1, 2).crowd(0));
        Check.due("40 the second round", 's', () -> rounds(0, 0, 0, 1, 4, 0).crowd(0));
        Check.due("40 the sum of two rounds", 'f', () -> rounds(3, 0, 0, 1, 0, 4).crowd(0));
        Check.due("40 nobody", '-', () -> rounds(2, 0, 0, 1, 4, 0).crowd(0));
        CypherRing y = battle(withRhymes(), 1, 2);
        Ring.bar(y, 3);
        Ring.bar(y, 4);
        Ring.bar(y, 4, 4);
        Check.due("40 nobody in that region", '-', () -> y.crowd(0));
        y.setAccent(1, 7, 3);
        Check.due("40 the first side in that one", 'f', () -> y.crowd(1));
    }

    private static void crowdWeighsAllAlike() {
        CypherRing rhymes = battle(withRhymes(), 1, 2);
        one(rhymes, 2, 50);
        one(rhymes, 3, 50);
        Check.due("40 one rhyme", 'f', () -> rhymes.crowd(0));
        one(rhymes, 4, 0);
        Check.due("40 one rhyme against one landing", '-', () -> rhymes.crowd(0));
        CypherRing chains = new CypherRing();
        Ring.word(chains, 1071, 1000);
        Ring.word(chains, 1771, 1000);
        Ring.word(chains, 1111);
        battle(chains, 1, 2);
        one(chains, 0, 50);
        one(chains, 1, 50);
        Check.due("40 one chain", 'f', () -> chains.crowd(0));
        one(chains, 2, 0);
        Check.due("40 one chain against one landing", '-', () -> chains.crowd(0));
        CypherRing answers = battle(Ring.withWords(1), 1, 1);
        one(answers, 0, 0);
        Check.due("40 one landing", 'f', () -> answers.crowd(0));
        one(answers, 0, 50);
        Check.due("40 one answer against one landing", '-', () -> answers.crowd(0));
    }

    private static void crowdThrows() {
        CypherRing x = new CypherRing();
        Check.dueThrow(x, "40 no battle", NONE, () -> x.crowd(0));
        Check.dueThrow(x, "40 region 4", RANGE, () -> x.crowd(4));
        Check.dueThrow(x, "40 region -1", RANGE, () -> x.crowd(-1));
        Ring.performers(x, 0, 0);
        x.challenge(0, 1, 0);
        Check.dueThrow(x, "40 no battle yet", NONE, () -> x.crowd(0));
        x.begin(1, 1);
        Check.due("40 in a battle", '-', () -> x.crowd(0));
    }

    private static void decide() {
        CypherRing x = new CypherRing();
        Ring.word(x, 1111);
        Ring.performers(x, 0, 0, 0);
        x.challenge(2, 1, 501);
        x.begin(1, 1);
        one(x, 0, 50);
        one(x, 0, 100);
        Check.due("41 the second side wins", 2, () -> x.decide(0));
        Check.due("41 the winner's rating", 1020, () -> x.rating(2));
        Check.due("41 the loser's rating", 980, () -> x.rating(1));
        Check.due("41 the rating of another", 1000, () -> x.rating(0));
        Check.due("41 the purse", 501, () -> x.money(2));
        Check.due("41 no purse", 0, () -> x.money(1));
        Check.due("41 it is not on", false, x::isOn);
        Check.due("41 the crowd still tells", 's', () -> x.crowd(0));
    }

    private static void decideThrows() {
        CypherRing x = new CypherRing();
        Check.dueThrow(x, "41 no battle", STATE, () -> x.decide(0));
        Check.dueThrow(x, "41 region ahead of that", RANGE, () -> x.decide(4));
        Ring.performers(x, 0, 0);
        x.challenge(0, 1, 0);
        Check.dueThrow(x, "41 a challenge waits", STATE, () -> x.decide(0));
        x.begin(1, 1);
        Check.dueThrow(x, "41 a turn", STATE, () -> x.decide(0));
        x.choke();
        Check.dueThrow(x, "41 the last turn", STATE, () -> x.decide(0));
        x.choke();
        Check.dueThrow(x, "41 region 4", RANGE, () -> x.decide(4));
        Check.dueThrow(x, "41 region -1", RANGE, () -> x.decide(-1));
        Check.due("41 it waits", -1, () -> x.decide(3));
        Check.dueThrow(x, "41 decided", STATE, () -> x.decide(0));
    }

    private static void decideByMore() {
        CypherRing x = rounds(1, 0);
        Check.due("41 the crowd alone", 1, () -> x.decide(0));
        CypherRing y = rounds(1, 0);
        y.addJudge(0, -1);
        y.addJudge(0, -1);
        Check.due("41 two judges against the crowd", 0, () -> y.decide(0));
        CypherRing z = rounds(1, 0);
        z.addJudge(0, -1);
        z.addJudge(0, 0);
        Check.due("41 as many", -1, () -> z.decide(0));
        CypherRing w = rounds(0, 0);
        w.addJudge(0, 0);
        w.addJudge(0, -20);
        Check.due("41 one, the others for nobody", 0, () -> w.decide(0));
        Check.due("41 the crowd by two rounds of three", 1, () -> rounds(1, 0, 0, 0, 0, 4).decide(0));
        CypherRing u = rounds(1, 0, 0, 0, 0, 4);
        u.addJudge(1111, 0);
        Check.due("41 a judge by all three", -1, () -> u.decide(0));
        CypherRing v = battle(withRhymes(), 1, 2);
        Ring.bar(v, 3);
        Ring.bar(v, 4);
        Ring.bar(v, 4, 4);
        v.choke();
        v.setAccent(1, 7, 3);
        Check.due("41 by the region", 1, () -> v.decide(1));
    }

    private static void decideDrawn() {
        CypherRing x = Ring.withPerformers(0, 1);
        for (int i = 0; i < 3; i++) {
            x.challenge(0, 1, 0);
            x.refuse();
        }
        x.challenge(0, 1, 101);
        x.begin(1, 1);
        Ring.chokeAll(x);
        Check.due("41 drawn", -1, () -> x.decide(0));
        Check.due("41 half of the purse, cut", 50, () -> x.money(0));
        Check.due("41 half of the purse for the other", 50, () -> x.money(1));
        Check.due("41 ratings stay", 1000, () -> x.rating(0));
        Check.due("41 ratings of both", 1000, () -> x.rating(1));
        Check.due("41 tiers stay", 2, () -> x.tier(1));
        Check.due("41 tiers of both", 1, () -> x.tier(0));
        x.challenge(1, 0, 1);
        x.begin(1, 1);
        Ring.chokeAll(x);
        x.decide(0);
        Check.due("41 half of 1", 50, () -> x.money(0));
    }

    /** Words 0 to 23, and performers; each battle is won by a bar that no earlier one had. */
    private static final class Season {
        private final CypherRing x = Ring.withWords(24);
        private final int[] styles;
        private final int[] ratings;
        private int battles;

        Season(int... styles) {
            this.styles = styles;
            ratings = new int[styles.length];
            for (int i = 0; i < styles.length; i++) {
                x.addPerformer(styles[i]);
                ratings[i] = 1000;
            }
        }

        void win(int winner, int loser) {
            x.challenge(winner, loser, 10);
            int first = x.begin(1, 1);
            if (first != winner) {
                x.choke();
            }
            x.say(battles / 24, 0);
            x.say(battles % 24, 100);
            x.closeBar();
            if (first == winner) {
                x.choke();
            }
            battles++;
            Check.due("41 winner of battle " + battles, winner, () -> x.decide(0));
        }

        /** Such a battle, and how it changes the ratings. */
        int change(int winner, int loser) {
            win(winner, loser);
            int change = x.rating(winner) - ratings[winner];
            Check.due("41 loses as much in battle " + battles, ratings[loser] - change, () -> x.rating(loser));
            ratings[winner] += change;
            ratings[loser] -= change;
            return change;
        }
    }

    private static void decideStyles() {
        for (int winner = 0; winner < 3; winner++) {
            for (int loser = 0; loser < 3; loser++) {
                boolean isBehind = winner == 0 && loser == 1 || winner == 1 && loser == 2 || winner == 2 && loser == 0;
                Season season = new Season(winner, loser);
                Check.due("41 style " + winner + " over " + loser, isBehind ? 25 : 20, () -> season.change(0, 1));
            }
        }
    }

    private static void decideRatings() {
        Season season = new Season(0, 0, 1);
        int[] less = {20, 18, 17, 15, 13, 12};
        for (int want : less) {
            Check.due("41 over a weaker one", want, () -> season.change(0, 1));
        }
        Check.due("13 of the winner", 1095, () -> season.x.rating(0));
        Check.due("13 of the loser", 905, () -> season.x.rating(1));
        Check.due("41 over a stronger one, cut", 20 + 9, () -> season.change(1, 0));
        Check.due("41 a difference of 132", 20 + 6, () -> season.change(1, 0));
        Check.due("41 a difference of 80, and the style", 20 - 2 + 5, () -> season.change(0, 2));
        Check.due("48 and 49 of all", 1000.0, season.x::meanRating);
    }

    private static void decideRatingsAtTheLimits() {
        Season season = new Season(0, 1, 1, 1, 1, 1, 1, 1, 1, 2);
        for (int i = 0; i < 40; i++) {
            int middle = 1 + i / 2 % 8;
            int winner = i % 2 == 0 ? 0 : middle;
            int loser = i % 2 == 0 ? middle : 9;
            int apart = season.ratings[loser] - season.ratings[winner];
            int want = 25 + (int) (apart / 20.0);
            Check.due("41 battle " + i, want, () -> season.change(winner, loser));
        }
        int apart = season.ratings[0] - season.ratings[9];
        Check.due("41 far apart", true, () -> apart > 520);
        Check.due("41 by 50 at most", 50, () -> season.change(9, 0));
        Season other = new Season(0, 0);
        for (int i = 0; i < 45; i++) {
            int d = other.ratings[0] - other.ratings[1];
            int want = Math.max(1, 20 - d / 20);
            Check.due("41 by 1 at least, battle " + i, want, () -> other.change(0, 1));
        }
        Check.due("41 far apart", true, () -> other.ratings[0] - other.ratings[1] > 400);
    }

    private static void decideTiers() {
        Season season = new Season(0, 0);
        CypherRing x = season.x;
        for (int i = 0; i < 3; i++) {
            x.challenge(0, 1, 0);
            x.refuse();
        }
        season.win(0, 1);
        Check.due("41 the winner's tier stays", 1, () -> x.tier(0));
        Check.due("41 the loser's tier was lower", 2, () -> x.tier(1));
        season.win(1, 0);
        Check.due("41 the winner's tier becomes the loser's", 1, () -> x.tier(1));
        Check.due("41 the loser's tier becomes the winner's", 2, () -> x.tier(0));
        Season equal = new Season(0, 0);
        equal.win(1, 0);
        Check.due("41 like tiers stay", 1, () -> equal.x.tier(0));
        Check.due("41 like tiers stay, of both", 1, () -> equal.x.tier(1));
    }
}
