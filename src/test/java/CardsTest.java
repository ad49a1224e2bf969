import java.util.NoSuchElementException;

/** Promises 36 to 40: judges, marks, cards and the crowd. */
public final class CardsTest {
    private static final Class<?> RANGE = IllegalArgumentException.class;
    private static final Class<?> STATE = IllegalStateException.class;
    private static final Class<?> INDEX = IndexOutOfBoundsException.class;
    private static final Class<?> NONE = NoSuchElementException.class;

    public static void main(String[] args) {
        addJudge();
        marksOfRhymes();
        marksOfRhymesNextToEachOther();
        marksOfLandings();
        marksOfAnswers();
        marksOfChains();
        marksWithoutBarsThatWereHeard();
        marksByThePlaceOfTheOneHeard();
        marksOfAllTurns();
        marksOfTurns();
        marksThrows();
        card();
        cardThrows();
        cardOfTheLeaning();
        isForMoreRounds();
        isForTheGreaterSum();
        isForByOne();
        isForByTheRegion();
        isForThrows();
        crowd();
        crowdWeighsAllAlike();
        crowdByOne();
        crowdThrows();
        Check.end();
    }

    private static void one(Tape x, int word, int at) {
        x.say(word, at);
        x.closeBar();
    }

    private static void addJudge() {
        Tape x = new Tape();
        addJudgeOutOfRange(x, "the first one");
        Check.due("36 first, lowest numbers", 0, () -> x.addJudge(0, -20));
        Check.due("36 second, highest numbers", 1, () -> x.addJudge(9999, 20));
        for (int i = 2; i < 5; i++) {
            Check.due("36 next", i, () -> x.addJudge(1234, 0));
        }
        Check.dueThrow(x, "36 the sixth", STATE, () -> x.addJudge(0, 0));
        addJudgeOutOfRange(x, "the sixth");
    }

    private static void addJudgeOutOfRange(Tape x, String when) {
        Check.dueThrowBeyond(x, "36 " + when + ", weights", RANGE, 0, 9999, n -> x.addJudge(n, 0));
        Check.dueThrowBeyond(x, "36 " + when + ", leaning", RANGE, -20, 20, n -> x.addJudge(0, n));
    }

    private static void marksOfRhymes() {
        int[][] pairs = {{0, 1, 3}, {0, 2, 2}, {2, 3, 1}, {0, 4, 0}, {0, 0, 0}, {3, 2, 1}};
        for (int[] pair : pairs) {
            Tape x = Ring.exactBattle(Ring.withRhymes(), 1, 2);
            Ring.bar(x, 4, pair[0]);
            Check.due("37 one bar", 0, () -> x.marks(0, 0, 0, 0));
            Ring.bar(x, 4, pair[1]);
            Check.due("37 ends " + pair[0] + " and " + pair[1], pair[2], () -> x.marks(0, 0, 0, 0));
        }
        Tape x = Ring.exactBattle(Ring.withRhymes(), 1, 3);
        Ring.bar(x, 0);
        Ring.bar(x, 4);
        Check.due("37 unlike ends", 0, () -> x.marks(0, 0, 0, 2));
        x.setAccent(2, 7, 0);
        Check.due("37 by the region", 2, () -> x.marks(0, 0, 0, 2));
        Check.due("37 by another region", 0, () -> x.marks(0, 0, 0, 1));
    }

    private static void marksOfRhymesNextToEachOther() {
        Tape x = Ring.exactBattle(Ring.withRhymes(), 2, 4);
        Ring.bar(x, 0);
        Ring.bar(x, 1);
        Ring.bar(x, 0);
        Ring.bar(x, 2);
        Check.due("37 each bar behind another one", 3 + 3 + 2, () -> x.marks(0, 0, 0, 0));
        Ring.bar(x, 1);
        Check.due("37 not behind another turn", 0, () -> x.marks(0, 1, 0, 0));
        Ring.bar(x, 4);
        Ring.bar(x, 0);
        Check.due("37 not behind one that is not next to it", 0, () -> x.marks(0, 1, 0, 0));
        x.choke();
        Ring.bar(x, 0);
        Ring.bar(x, 1);
        Check.due("37 of another round", 3, () -> x.marks(1, 0, 0, 0));
        Check.due("37 of the round before", 8, () -> x.marks(0, 0, 0, 0));
    }

    private static void marksOfLandings() {
        Tape x = Ring.exactBattle(Ring.withWords(1), 1, 2);
        x.say(0, 0);
        x.say(0, 100);
        x.say(0, 150);
        x.closeBar();
        one(x, 0, 300);
        one(x, 0, 200);
        x.say(0, 0);
        Check.due("37 landings of all bars", 3, () -> x.marks(0, 0, 1, 0));
        Check.due("37 landings of the other side", 1, () -> x.marks(0, 1, 1, 0));
    }

    private static void marksOfAnswers() {
        Tape x = Ring.exactBattle(Ring.withWords(4), 2, 2);
        Ring.bar(x, 0, 1);
        Ring.bar(x, 2);
        Ring.bar(x, 0, 1, 3, 1);
        Ring.bar(x, 2, 0);
        Ring.bar(x, 3);
        Check.due("37 none to answer", 0, () -> x.marks(0, 0, 2, 0));
        Check.due("37 answers of all bars", 4, () -> x.marks(0, 1, 2, 0));
        Check.due("37 answers in the next round", 1, () -> x.marks(1, 0, 2, 0));
        Check.due("37 answers of a turn that is to come", 0, () -> x.marks(1, 1, 2, 0));
    }

    private static void marksOfChains() {
        Tape x = new Tape();
        for (int vowel = 0; vowel < 4; vowel++) {
            Ring.word(x, 1001 + 100 * vowel);
        }
        Ring.exactBattle(x, 1, 4);
        Ring.bar(x, 0, 1, 2, 3);
        Check.due("37 no next bar", 0, () -> x.marks(0, 0, 3, 0));
        Ring.bar(x, 3, 2, 3);
        Ring.bar(x, 2, 2, 3);
        Ring.bar(x, 1, 3);
        Check.due("37 the longest, not the sum", 2, () -> x.marks(0, 0, 3, 0));
        Ring.bar(x, 1, 3);
        Ring.bar(x, 1, 3);
        Check.due("37 of this turn alone", 2, () -> x.marks(0, 1, 3, 0));
        Ring.bar(x, 0);
        Ring.bar(x, 0, 1, 3);
        Check.due("37 of one bar and the next one", 2, () -> x.marks(0, 1, 3, 0));
        x.setAccent(1, 2, 3);
        Check.due("37 by the region", 3, () -> x.marks(0, 0, 3, 1));
        Check.due("37 by another region", 2, () -> x.marks(0, 0, 3, 0));
        Tape y = Ring.exactBattle(Ring.withWords(2), 1, 2);
        Ring.bar(y, 0);
        y.choke();
        Ring.bar(y, 0);
        Check.due("37 not with the other side's", 0, () -> y.marks(0, 0, 3, 0));
    }

    private static void marksWithoutBarsThatWereHeard() {
        Tape x = Ring.exactBattle(Ring.withRhymes(), 1, 4);
        Ring.bar(x, 1);
        x.choke();
        Ring.bar(x, 0);
        x.choke();
        x.decide(0);
        x.challenge(0, 1, 0);
        x.begin(1, 4);
        one(x, 2, 0);
        one(x, 0, 0);
        one(x, 1, 100);
        one(x, 2, 100);
        one(x, 0, 0);
        x.say(2, 0);
        x.say(0, 25);
        x.closeBar();
        x.say(2, 0);
        x.say(1, 100);
        x.closeBar();
        Check.due("37 it was heard", true, () -> x.wasHeard(1));
        Check.due("37 it lands", 1, () -> x.landings(1));
        Check.due("37 it answers", 1, () -> x.answers(4));
        Check.due("37 no rhymes with them", 0, () -> x.marks(0, 0, 0, 0));
        Check.due("37 no landings of them", 2, () -> x.marks(0, 0, 1, 0));
        Check.due("37 no answers of them", 4, () -> x.marks(0, 1, 2, 0));
        Check.due("37 no chains with them", 0, () -> x.marks(0, 0, 3, 0));
        Check.due("37 rhymes of those that were not", 3, () -> x.marks(0, 1, 0, 0));
        Check.due("37 chains of those that were not", 2, () -> x.marks(0, 1, 3, 0));
    }

    /** The second battle's turn of three bars, with the one that was heard at each of its places. */
    private static void marksByThePlaceOfTheOneHeard() {
        int[][] ends = {{0, 1, 2}, {1, 0, 2}, {1, 2, 0}, {0, 0, 0}, {1, 2, 1}};
        int[][] marks = {{2, 2, 1}, {0, 2, 0}, {2, 2, 1}, {0, 0, 0}, {4, 3, 1}};
        for (int i = 0; i < ends.length; i++) {
            Tape x = Ring.exactBattle(Ring.withRhymes(), 1, 1);
            Ring.bar(x, 0);
            x.choke();
            x.decide(0);
            x.challenge(0, 1, 0);
            x.begin(1, 3);
            for (int end : ends[i]) {
                Ring.bar(x, end);
            }
            String of = " of row " + i;
            Check.due("37 rhymes" + of, marks[i][0], () -> x.marks(0, 0, 0, 0));
            Check.due("37 landings" + of, marks[i][1], () -> x.marks(0, 0, 1, 0));
            Check.due("37 chains" + of, marks[i][2], () -> x.marks(0, 0, 3, 0));
        }
    }

    /** As many turns and bars as there can be, of two words that rhyme perfectly. */
    private static void marksOfAllTurns() {
        Tape x = Ring.exactBattle(Ring.withRhymes(), 3, 4);
        x.addJudge(1000, 1);
        for (int turn = 0; turn < 6; turn++) {
            int round = turn / 2;
            int side = turn % 2;
            for (int bar = 0; bar < 4; bar++) {
                Ring.bar(x, bar % 2);
            }
            String of = " of turn " + turn;
            int answers = turn == 0 ? 0 : 4;
            Check.due("37 rhymes" + of, 3 * 3, () -> x.marks(round, side, 0, 0));
            Check.due("37 landings" + of, 4, () -> x.marks(round, side, 1, 0));
            Check.due("37 answers" + of, answers, () -> x.marks(round, side, 2, 0));
            Check.due("37 chains" + of, 1, () -> x.marks(round, side, 3, 0));
            Check.due("38 card" + of, side == 0 ? 10 : 1, () -> x.card(0, round, 0));
        }
    }

    private static void marksOfTurns() {
        Tape x = Ring.withWords(1);
        Ring.performers(x, 0, 0);
        Check.dueThrow(x, "37 no battle", NONE, () -> x.marks(0, 0, 0, 0));
        x.challenge(0, 1, 0);
        Check.dueThrow(x, "37 no battle yet", NONE, () -> x.marks(0, 0, 0, 0));
        x.begin(2, 2);
        Check.due("37 no bar yet", 0, () -> x.marks(1, 1, 1, 0));
        one(x, 0, 0);
        Check.due("37 bars closed by now", 1, () -> x.marks(0, 0, 1, 0));
        one(x, 0, 0);
        Check.due("37 bars closed by then", 2, () -> x.marks(0, 0, 1, 0));
        x.choke();
        x.choke();
        one(x, 0, 0);
        Check.due("37 second round, second side", 1, () -> x.marks(1, 1, 1, 0));
        x.choke();
        x.decide(0);
        Check.due("37 decided", 1, () -> x.marks(1, 1, 1, 3));
        x.challenge(0, 1, 0);
        Check.due("37 while a challenge waits", 1, () -> x.marks(1, 1, 1, 0));
        x.begin(1, 1);
        Check.due("37 of the new battle", 0, () -> x.marks(0, 0, 1, 0));
        Check.dueThrow(x, "37 the new one has fewer rounds", NONE, () -> x.marks(1, 1, 1, 0));
    }

    /** The numbers that no battle of as many rounds has; with no battle there are none. */
    private static void marksOutOfRange(Tape x, int rounds, String when) {
        String what = "37 " + when;
        for (int round : new int[] {0, rounds, Integer.MAX_VALUE}) {
            String of = what + ", round " + round;
            Check.dueThrowBeyond(x, of + ", side", RANGE, 0, 1, n -> x.marks(round, n, 0, 0));
            Check.dueThrowBeyond(x, of + ", what", RANGE, 0, 3, n -> x.marks(round, 0, n, 0));
            Check.dueThrowBeyond(x, of + ", region", RANGE, 0, 3, n -> x.marks(round, 0, 0, n));
        }
        for (int round : new int[] {-1, Integer.MIN_VALUE}) {
            Check.dueThrow(x, what + ", round " + round, RANGE, () -> x.marks(round, 0, 0, 0));
        }
        for (int round : new int[] {rounds, rounds + 1, 3, Integer.MAX_VALUE}) {
            Check.dueThrow(x, what + ", round " + round, NONE, () -> x.marks(round, 0, 0, 0));
            Check.dueThrow(x, what + ", round " + round + ", highest", NONE, () -> x.marks(round, 1, 3, 3));
        }
    }

    private static void marksThrows() {
        marksOutOfRange(new Tape(), 0, "a new object");
        for (int rounds = 1; rounds <= 3; rounds++) {
            Tape x = Ring.exactBattle(Ring.withWords(1), rounds, 1);
            int last = rounds - 1;
            marksOutOfRange(x, rounds, rounds + " rounds");
            Check.due("37 the last of " + rounds + " rounds", 0, () -> x.marks(last, 1, 3, 3));
        }
    }

    private static void card() {
        Tape x = Ring.exactBattle(Ring.withRhymes(), 2, 2);
        x.addJudge(1000, 0);
        x.addJudge(200, 0);
        x.addJudge(30, 0);
        x.addJudge(4, 0);
        x.addJudge(5678, -9);
        one(x, 0, 0);
        one(x, 1, 10);
        x.say(3, 0);
        x.say(0, 100);
        x.closeBar();
        x.say(3, 300);
        x.closeBar();
        int[][] marks = {{3, 1, 0, 1}, {0, 3, 1, 0}};
        for (int side = 0; side < 2; side++) {
            for (int what = 0; what < 4; what++) {
                int s = side;
                int w = what;
                Check.due("37 for the card", marks[s][w], () -> x.marks(0, s, w, 0));
            }
        }
        Check.due("38 rhymes", 3, () -> x.card(0, 0, 0));
        Check.due("38 landings", -4, () -> x.card(1, 0, 0));
        Check.due("38 answers", -3, () -> x.card(2, 0, 0));
        Check.due("38 chains", 4, () -> x.card(3, 0, 0));
        Check.due("38 all and the leaning", 15 - 12 - 7 + 8 - 9, () -> x.card(4, 0, 0));
        Check.due("38 a round to come", -9, () -> x.card(4, 1, 0));
        x.setAccent(3, 3, 0);
        Check.due("38 by the region", 15 - 10 - 12 - 7 + 8 - 8 - 9, () -> x.card(4, 0, 3));
    }

    private static void cardOutOfRange(Tape x, int judges, int rounds, String when) {
        String what = "38 " + when;
        for (int round : new int[] {-1, 0, rounds}) {
            Check.dueThrowBeyond(x, what + ", judge", INDEX, 0, judges - 1, n -> x.card(n, round, 0));
            Check.dueThrowBeyond(x, what + ", judge", INDEX, 0, judges - 1, n -> x.card(n, round, 4));
        }
        if (judges == 0) {
            return;
        }
        for (int round : new int[] {0, rounds}) {
            Check.dueThrowBeyond(x, what + ", round " + round + ", region", RANGE, 0, 3, n -> x.card(0, round, n));
        }
        for (int round : new int[] {-1, Integer.MIN_VALUE}) {
            Check.dueThrow(x, what + ", round " + round, RANGE, () -> x.card(0, round, 0));
        }
        for (int round : new int[] {rounds, 3, Integer.MAX_VALUE}) {
            Check.dueThrow(x, what + ", round " + round, NONE, () -> x.card(judges - 1, round, 3));
        }
    }

    private static void cardThrows() {
        Tape x = new Tape();
        cardOutOfRange(x, 0, 0, "no judge and no battle");
        x.addJudge(1111, 0);
        cardOutOfRange(x, 1, 0, "no battle");
        Ring.performers(x, 0, 0);
        x.challenge(0, 1, 0);
        cardOutOfRange(x, 1, 0, "no battle yet");
        x.begin(2, 1);
        cardOutOfRange(x, 1, 2, "two rounds");
        Tape y = Ring.withPerformers(0, 0);
        y.challenge(0, 1, 0);
        y.begin(3, 1);
        cardOutOfRange(y, 0, 3, "no judge");
        for (int judge = 0; judge < 5; judge++) {
            y.addJudge(0, judge);
        }
        cardOutOfRange(y, 5, 3, "five judges");
        Check.due("38 the last judge, round and region", 4, () -> y.card(4, 2, 3));
    }

    /** The least and the greatest that a card can be by the leaning alone. */
    private static void cardOfTheLeaning() {
        Tape x = Ring.exactBattle(Ring.withWords(1), 1, 1);
        x.addJudge(9999, -20);
        x.addJudge(9999, 20);
        Check.due("38 the least leaning", -20, () -> x.card(0, 0, 0));
        Check.due("38 the greatest leaning", 20, () -> x.card(1, 0, 0));
        one(x, 0, 0);
        Check.due("38 the greatest weight of one landing", 9 - 20, () -> x.card(0, 0, 0));
        one(x, 0, 0);
        Check.due("38 less one landing and one answer", 20 - 9, () -> x.card(1, 0, 0));
    }

    private static void isForMoreRounds() {
        Tape x = Ring.rounds(1, 0, 1, 0, 0, 4);
        x.addJudge(100, 0);
        x.addJudge(100, -1);
        x.addJudge(100, -2);
        x.addJudge(9099, 0);
        x.addJudge(0, 1);
        Check.due("39 more rounds, not the greater sum", 'f', () -> x.isFor(0, 0));
        Check.due("39 fewer rounds by the leaning", 's', () -> x.isFor(1, 0));
        Check.due("39 no round by the leaning", 's', () -> x.isFor(2, 0));
        Check.due("39 by the answers", 's', () -> x.isFor(3, 0));
        Check.due("39 by the leaning alone", 'f', () -> x.isFor(4, 0));
    }

    private static void isForTheGreaterSum() {
        Tape x = Ring.rounds(1, 0, 0, 3, 2, 2);
        x.addJudge(100, 0);
        Check.due("39 as many rounds, the second side's sum", 's', () -> x.isFor(0, 0));
        Tape y = Ring.rounds(3, 0, 0, 1);
        y.addJudge(100, 0);
        Check.due("39 as many rounds, the first side's sum", 'f', () -> y.isFor(0, 0));
        Tape z = Ring.rounds(3, 0, 0, 3);
        z.addJudge(100, 0);
        z.addJudge(0, 0);
        z.addJudge(100, 1);
        Check.due("39 nobody", '-', () -> z.isFor(0, 0));
        Check.due("39 nobody without weights", '-', () -> z.isFor(1, 0));
        Check.due("39 the first side by the leaning", 'f', () -> z.isFor(2, 0));
    }

    /** Cards and sums of cards next to 0. */
    private static void isForByOne() {
        Tape x = Ring.rounds(0, 0, 0, 0);
        x.addJudge(0, 1);
        x.addJudge(0, -1);
        x.addJudge(0, 0);
        Check.due("39 cards of 1", 'f', () -> x.isFor(0, 0));
        Check.due("39 cards of -1", 's', () -> x.isFor(1, 0));
        Check.due("39 cards of 0", '-', () -> x.isFor(2, 0));
        isForBySums(Ring.rounds(2, 0, 0, 1), 'f', "1");
        isForBySums(Ring.rounds(1, 0, 0, 2), 's', "-1");
        isForBySums(Ring.rounds(1, 0, 0, 1), '-', "0");
        isForBySums(Ring.rounds(0, 0, 0, 0, 1, 0), 'f', "1 in the last round");
        isForBySums(Ring.rounds(0, 0, 0, 0, 0, 1), 's', "-1 in the last round");
        isForBySums(Ring.rounds(0, 0, 1, 0, 0, 1), '-', "0, the first round being nobody's");
    }

    private static void isForBySums(Tape x, char want, String sum) {
        x.addJudge(100, 0);
        Check.due("39 a sum of " + sum, want, () -> x.isFor(0, 0));
    }

    private static void isForByTheRegion() {
        Tape x = Ring.exactBattle(Ring.withRhymes(), 1, 2);
        x.addJudge(1000, 0);
        Ring.bar(x, 0);
        Ring.bar(x, 4);
        Check.due("39 nobody in the first region", '-', () -> x.isFor(0, 0));
        x.setAccent(3, 7, 0);
        Check.due("39 the first side in the last region", 'f', () -> x.isFor(0, 3));
        Check.due("39 nobody in the one ahead of it", '-', () -> x.isFor(0, 2));
        Check.due("40 the crowd in the last region", 'f', () -> x.crowd(3));
    }

    private static void isForThrows() {
        Tape x = new Tape();
        isForOutOfRange(x, 0, "no judge and no battle");
        x.addJudge(1111, 1);
        Check.dueThrow(x, "39 no battle", NONE, () -> x.isFor(0, 0));
        isForOutOfRange(x, 1, "no battle");
        Ring.performers(x, 0, 0);
        x.challenge(0, 1, 0);
        Check.dueThrow(x, "39 no battle yet", NONE, () -> x.isFor(0, 3));
        x.begin(1, 1);
        Check.due("39 in a battle", 'f', () -> x.isFor(0, 0));
        isForOutOfRange(x, 1, "in a battle");
        for (int judge = 1; judge < 5; judge++) {
            x.addJudge(0, -judge);
        }
        Check.due("39 the last judge, the last region", 's', () -> x.isFor(4, 3));
        isForOutOfRange(x, 5, "five judges");
    }

    private static void isForOutOfRange(Tape x, int judges, String when) {
        String what = "39 " + when;
        Check.dueThrowBeyond(x, what + ", judge", INDEX, 0, judges - 1, n -> x.isFor(n, 0));
        Check.dueThrowBeyond(x, what + ", region 4, judge", INDEX, 0, judges - 1, n -> x.isFor(n, 4));
        if (judges > 0) {
            Check.dueThrowBeyond(x, what + ", region", RANGE, 0, 3, n -> x.isFor(judges - 1, n));
        }
    }

    private static void crowd() {
        Tape x = Ring.rounds(1, 0, 0, 0, 0, 4);
        x.addJudge(1111, 0);
        Check.due("40 the first two rounds alone", 'f', () -> x.crowd(0));
        Check.due("40 a judge by all rounds", 's', () -> x.isFor(0, 0));
        Check.due("40 one round", 's', () -> Ring.rounds(1, 2).crowd(0));
        Check.due("40 the second round", 's', () -> Ring.rounds(0, 0, 0, 1, 4, 0).crowd(0));
        Check.due("40 the sum of two rounds", 'f', () -> Ring.rounds(3, 0, 0, 1, 0, 4).crowd(0));
        Check.due("40 nobody", '-', () -> Ring.rounds(2, 0, 0, 1, 4, 0).crowd(0));
        Tape y = Ring.exactBattle(Ring.withRhymes(), 1, 2);
        Ring.bar(y, 3);
        Ring.bar(y, 4);
        Ring.bar(y, 4, 4);
        Check.due("40 nobody in that region", '-', () -> y.crowd(0));
        y.setAccent(1, 7, 3);
        Check.due("40 the first side in that one", 'f', () -> y.crowd(1));
    }

    private static void crowdWeighsAllAlike() {
        Tape rhymes = Ring.exactBattle(Ring.withRhymes(), 1, 2);
        one(rhymes, 2, 50);
        one(rhymes, 3, 50);
        Check.due("40 one rhyme", 'f', () -> rhymes.crowd(0));
        one(rhymes, 4, 0);
        Check.due("40 one rhyme against one landing", '-', () -> rhymes.crowd(0));
        Tape chains = new Tape();
        Ring.word(chains, 1071, 1000);
        Ring.word(chains, 1771, 1000);
        Ring.word(chains, 1111);
        Ring.exactBattle(chains, 1, 2);
        one(chains, 0, 50);
        one(chains, 1, 50);
        Check.due("40 one chain", 'f', () -> chains.crowd(0));
        one(chains, 2, 0);
        Check.due("40 one chain against one landing", '-', () -> chains.crowd(0));
        Tape answers = Ring.exactBattle(Ring.withWords(1), 1, 1);
        one(answers, 0, 0);
        Check.due("40 one landing", 'f', () -> answers.crowd(0));
        one(answers, 0, 50);
        Check.due("40 one answer against one landing", '-', () -> answers.crowd(0));
    }

    private static void crowdByOne() {
        Check.due("40 a sum of 3 less 2", 'f', () -> Ring.rounds(3, 0, 0, 1).crowd(0));
        Check.due("40 a sum of 2 less 2", '-', () -> Ring.rounds(2, 0, 0, 1).crowd(0));
        Check.due("40 a sum of 1 less 2", 's', () -> Ring.rounds(1, 0, 0, 1).crowd(0));
        Check.due("40 the last of two rounds", 's', () -> Ring.rounds(0, 0, 0, 1).crowd(0));
        Check.due("40 the third of three rounds", '-', () -> Ring.rounds(0, 0, 0, 0, 1, 0).crowd(0));
    }

    private static void crowdThrows() {
        Tape x = new Tape();
        Check.dueThrow(x, "40 no battle", NONE, () -> x.crowd(0));
        Check.dueThrowBeyond(x, "40 no battle, region", RANGE, 0, 3, x::crowd);
        Ring.performers(x, 0, 0);
        x.challenge(0, 1, 0);
        Check.dueThrow(x, "40 no battle yet", NONE, () -> x.crowd(3));
        x.begin(1, 1);
        Check.due("40 in a battle", '-', () -> x.crowd(0));
        Check.due("40 in a battle, the last region", '-', () -> x.crowd(3));
        Check.dueThrowBeyond(x, "40 in a battle, region", RANGE, 0, 3, x::crowd);
    }
}
