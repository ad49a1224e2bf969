import java.math.BigInteger;

/** Promises 42 to 50: samples, and figures over the ring. */
public final class FiguresTest {
    private static final Class<?> RANGE = IllegalArgumentException.class;
    private static final Class<?> STATE = IllegalStateException.class;
    private static final Class<?> INDEX = IndexOutOfBoundsException.class;
    private static final Class<?> NOT_NOW = UnsupportedOperationException.class;
    private static final Class<?> NO_SHARE = ArithmeticException.class;

    public static void main(String[] args) {
        addSample();
        needsClearing();
        clear();
        clearOfTheFirstAndTheLast();
        clearThrows();
        paid();
        elapsed();
        checksum();
        checksumOfBars();
        checksumGoesRound();
        landedShare();
        landedShareAtTheEnds();
        landedShareOfLostWords();
        meanRating();
        meanRatingOfAll();
        isSound();
        isSoundAtTheEdges();
        Check.end();
    }

    private static void addSample() {
        Tape x = new Tape();
        addSampleOutOfRange(x, "the first one");
        Check.due("42 lowest numbers", 0, () -> x.addSample(0, 1, 0));
        Check.due("42 highest numbers", 1, () -> x.addSample(9, 99, 100));
        for (int i = 2; i < 10; i++) {
            int source = i;
            Check.due("42 next", i, () -> x.addSample(source, 50, 50));
        }
        Check.dueThrow(x, "42 the 11th", STATE, () -> x.addSample(0, 1, 0));
        addSampleOutOfRange(x, "the 11th");
    }

    private static void addSampleOutOfRange(Tape x, String when) {
        Check.dueThrowBeyond(x, "42 " + when + ", source", RANGE, 0, 9, n -> x.addSample(n, 1, 0));
        Check.dueThrowBeyond(x, "42 " + when + ", tenths", RANGE, 1, 99, n -> x.addSample(0, n, 0));
        Check.dueThrowBeyond(x, "42 " + when + ", likeness", RANGE, 0, 100, n -> x.addSample(0, 1, n));
    }

    /** No two numbers in range give 501, 502 or 503: 504 is the next one above 500. */
    private static void needsClearing() {
        int[][] samples = {{5, 100}, {10, 50}, {99, 5}, {99, 0}, {1, 100}, {7, 72}, {8, 63}, {99, 6}, {99, 100}};
        Tape x = new Tape();
        Check.dueThrowBeyond(x, "43 none, sample", INDEX, 0, -1, x::needsClearing);
        for (int i = 0; i < samples.length; i++) {
            int sample = i;
            int product = samples[i][0] * samples[i][1];
            x.addSample(0, samples[i][0], samples[i][1]);
            Check.due("43 " + product, i >= 5, () -> x.needsClearing(sample));
        }
        Check.dueThrowBeyond(x, "43 nine, sample", INDEX, 0, 8, x::needsClearing);
        x.addSample(0, 6, 84);
        Check.due("43 the last one", true, () -> x.needsClearing(9));
        Check.dueThrowBeyond(x, "43 ten, sample", INDEX, 0, 9, x::needsClearing);
    }

    private static void clear() {
        Tape x = Ring.withPerformers(0, 0);
        x.addSample(9, 99, 100);
        x.addSample(9, 7, 73);
        x.addSample(9, 99, 100);
        Check.due("44 9900 divided by 10", 990, () -> x.clear(0, 1));
        Check.due("44 511 divided by 10, cut", 51, () -> x.clear(1, 1));
        Check.due("15 below 0", -1041, () -> x.money(1));
        Check.due("15 not another's", 0, () -> x.money(0));
        Check.due("43 cleared", false, () -> x.needsClearing(0));
        Check.due("43 not cleared", true, () -> x.needsClearing(2));
        Check.due("45 paid for both", 1041, () -> x.paid(9));
        Check.due("44 for another performer", 990, () -> x.clear(2, 0));
        Check.due("15 of the other one", -990, () -> x.money(0));
        Check.due("13 ratings stay", 1000, () -> x.rating(1));
    }

    private static void clearOfTheFirstAndTheLast() {
        Tape x = Ring.withPerformers(0, 0, 0, 0, 0, 0, 0, 0, 0, 0);
        for (int sample = 0; sample < 10; sample++) {
            x.addSample(9 - sample, 7, 72);
        }
        Check.due("44 504 divided by 10, cut", 50, () -> x.clear(9, 0));
        Check.due("45 the first source", 50, () -> x.paid(0));
        Check.due("15 the first performer", -50, () -> x.money(0));
        Check.due("44 the first sample", 50, () -> x.clear(0, 9));
        Check.due("45 the last source", 50, () -> x.paid(9));
        Check.due("15 the last performer", -50, () -> x.money(9));
        Check.due("43 the second sample", true, () -> x.needsClearing(1));
        Check.due("43 the last but one", true, () -> x.needsClearing(8));
    }

    private static void clearOutOfRange(Tape x, int samples, int performers, String when) {
        for (int other : new int[] {0, -1, 10}) {
            String what = "44 " + when + ", other number " + other;
            Check.dueThrowBeyond(x, what + ", sample", INDEX, 0, samples - 1, n -> x.clear(n, other));
            Check.dueThrowBeyond(x, what + ", performer", INDEX, 0, performers - 1, n -> x.clear(other, n));
        }
    }

    private static void clearThrows() {
        Tape x = new Tape();
        clearOutOfRange(x, 0, 0, "nothing");
        x.addSample(3, 50, 10);
        clearOutOfRange(x, 1, 0, "no performer");
        x.addPerformer(0);
        clearOutOfRange(x, 1, 1, "one that needs none");
        Check.dueThrow(x, "44 needs none", NOT_NOW, () -> x.clear(0, 0));
        x.addSample(3, 50, 11);
        clearOutOfRange(x, 2, 1, "two samples");
        Check.due("44 550 divided by 10", 55, () -> x.clear(1, 0));
        Check.dueThrow(x, "44 needs none any longer", NOT_NOW, () -> x.clear(1, 0));
        x.addPerformer(0);
        Check.dueThrow(x, "44 needs none, for another one", NOT_NOW, () -> x.clear(1, 1));
        clearOutOfRange(x, 2, 2, "one that was cleared");
        Check.due("45 paid once", 55, () -> x.paid(3));
        Check.due("15 by one alone", -55, () -> x.money(0));
        Tape y = Ring.withPerformers(0);
        clearOutOfRange(y, 0, 1, "no sample");
    }

    private static void paid() {
        Tape x = Ring.withPerformers(0);
        for (int i = 0; i < 10; i++) {
            int source = i;
            Check.due("45 at first", 0, () -> x.paid(source));
        }
        x.addSample(0, 99, 100);
        Check.due("45 not by adding", 0, () -> x.paid(0));
        Check.dueThrowBeyond(x, "45 source", RANGE, 0, 9, x::paid);
    }

    private static void elapsed() {
        Tape x = Ring.withWords(1);
        Ring.performers(x, 0, 0);
        Check.due("46 at first", 0L, x::elapsed);
        x.challenge(0, 1, 0);
        x.begin(1, 2);
        x.say(0, 0);
        Check.due("46 an open bar", 0L, x::elapsed);
        x.closeBar();
        Check.due("46 one bar", 2666L, x::elapsed);
        x.say(0, 0);
        x.choke();
        Check.due("46 a lost bar", 2666L, x::elapsed);
        Ring.bar(x, 0);
        x.choke();
        Check.due("46 two bars", 5332L, x::elapsed);
        x.decide(0);
        x.setBeat(180, 0);
        Check.due("46 by the beat as it was", 5332L, x::elapsed);
        x.challenge(0, 1, 0);
        x.begin(1, 2);
        Ring.bar(x, 0);
        Check.due("46 over all battles", 5332L + 1333L, x::elapsed);
    }

    private static void checksum() {
        Tape x = new Tape();
        Check.due("47 at first", 7L, x::checksum);
        x.addPerformer(2);
        long one = ((7L * 31 + 1000) * 31 + 1) * 31;
        Check.due("47 a performer", one, x::checksum);
        x.addPerformer(1);
        Check.due("47 two performers", ((one * 31 + 1000) * 31 + 1) * 31, x::checksum);
        x.addSample(0, 99, 100);
        x.clear(0, 1);
        long paid = ((one * 31 + 1000) * 31 + 1) * 31 - 990;
        Check.due("47 money below 0", paid, x::checksum);
        for (int i = 0; i < 3; i++) {
            x.challenge(0, 1, 0);
            x.refuse();
        }
        Check.due("47 a lower tier", paid + 31, x::checksum);
    }

    private static void checksumOfBars() {
        Tape x = Ring.inBattle(4, 1, 2);
        long sum = 7;
        for (int i = 0; i < 2; i++) {
            sum = ((sum * 31 + 1000) * 31 + 1) * 31;
        }
        long none = sum;
        Check.due("47 no bar", none, x::checksum);
        x.say(3, 0);
        x.say(1, 25);
        Check.due("47 an open bar", none, x::checksum);
        x.closeBar();
        long first = ((none * 31 + 2) * 31 + 3) * 31 + 1;
        Check.due("47 one bar", first, x::checksum);
        Ring.bar(x, 0);
        long second = (first * 31 + 1) * 31;
        Check.due("47 two bars", second, x::checksum);
        x.choke();
        x.decide(0);
        x.challenge(0, 1, 0);
        long decided = 7;
        for (int performer = 0; performer < 2; performer++) {
            decided = decided * 31 + x.rating(performer);
            decided = decided * 31 + x.tier(performer);
            decided = decided * 31 + x.money(performer);
        }
        long withBars = ((((decided * 31 + 2) * 31 + 3) * 31 + 1) * 31 + 1) * 31;
        Check.due("47 bars stay behind the decision", withBars, x::checksum);
        x.begin(1, 1);
        long allGone = decided;
        Check.due("47 bars are gone with a new battle", allGone, x::checksum);
    }

    /** As many performers and bars as let the sum go round beyond the range of a long, many times. */
    private static void checksumGoesRound() {
        Tape x = Ring.withWords(3);
        Ring.performers(x, 0, 1, 2, 0, 1, 2, 0, 1, 2, 0);
        BigInteger sum = BigInteger.valueOf(7);
        for (int performer = 0; performer < 10; performer++) {
            sum = onwards(onwards(onwards(sum, 1000), 1), 0);
        }
        BigInteger ofPerformers = sum;
        Check.due("47 ten performers", ofPerformers.longValue(), x::checksum);
        x.challenge(0, 9, 0);
        x.begin(3, 4);
        for (int bar = 0; bar < 24; bar++) {
            int word = bar % 3;
            Ring.bar(x, word, 2);
            sum = onwards(onwards(onwards(sum, 2), word), 2);
        }
        BigInteger ofAll = sum;
        Check.due("47 and 24 bars", ofAll.longValue(), x::checksum);
    }

    private static BigInteger onwards(BigInteger sum, int value) {
        return sum.multiply(BigInteger.valueOf(31)).add(BigInteger.valueOf(value));
    }

    private static void landedShareAtTheEnds() {
        Tape x = Ring.inBattle(1, 1, 2);
        Check.dueThrow(x, "48 no words", NO_SHARE, x::landedShare);
        x.say(0, 50);
        x.closeBar();
        Check.due("48 none", 0.0f, x::landedShare);
        for (int i = 0; i < 16; i++) {
            x.say(0, 25 * i);
        }
        x.closeBar();
        Check.due("48 4 of 17", 4.0f / 17.0f, x::landedShare);
    }

    private static void landedShareOfLostWords() {
        Tape x = Ring.inBattle(1, 1, 1);
        x.say(0, 0);
        x.restart();
        x.say(0, 0);
        x.choke();
        x.choke();
        Check.dueThrow(x, "48 all words are lost", NO_SHARE, x::landedShare);
        x.decide(0);
        Check.dueThrow(x, "48 all words are lost, decided", NO_SHARE, x::landedShare);
    }

    private static void landedShare() {
        Tape x = Ring.withWords(1);
        Ring.performers(x, 0, 0);
        Check.dueThrow(x, "48 no battle", NO_SHARE, x::landedShare);
        x.challenge(0, 1, 0);
        x.begin(1, 3);
        x.say(0, 0);
        Check.dueThrow(x, "48 an open bar", NO_SHARE, x::landedShare);
        x.closeBar();
        Check.due("48 all", 1.0f, x::landedShare);
        x.say(0, 50);
        x.say(0, 150);
        x.closeBar();
        Check.due("48 a third", 1.0f / 3.0f, x::landedShare);
        x.say(0, 100);
        Check.due("48 without the open bar", 1.0f / 3.0f, x::landedShare);
        x.choke();
        x.say(0, 100);
        x.closeBar();
        Check.due("48 of both sides", 0.5f, x::landedShare);
        x.choke();
        x.decide(0);
        Check.due("48 decided", 0.5f, x::landedShare);
        x.challenge(0, 1, 0);
        x.begin(1, 3);
        Check.dueThrow(x, "48 a new battle", NO_SHARE, x::landedShare);
        Ring.bar(x, 0);
        Check.due("48 bars that were heard, too", 1.0f, x::landedShare);
    }

    private static void meanRating() {
        Tape x = Ring.withWords(2);
        Check.dueThrow(x, "49 none", NO_SHARE, x::meanRating);
        x.addPerformer(0);
        Check.due("49 one", 1000.0, x::meanRating);
        x.addPerformer(1);
        x.addPerformer(2);
        x.challenge(0, 1, 0);
        x.begin(1, 1);
        Ring.bar(x, 0);
        x.choke();
        x.decide(0);
        Check.due("49 behind a decision", 1000.0, x::meanRating);
    }

    private static void meanRatingOfAll() {
        Tape x = Ring.withPerformers(0, 1, 2, 0, 1, 2, 0, 1, 2, 0);
        x.addJudge(0, 20);
        Check.due("49 ten", 1000.0, x::meanRating);
        x.challenge(0, 9, 0);
        x.begin(1, 1);
        Ring.chokeAll(x);
        x.decide(0);
        Check.due("13 one changed", 1020, () -> x.rating(9));
        Check.due("49 ten behind a decision", 1000.0, x::meanRating);
    }

    /** The first and the last performer as first users, and bars that end at 400. */
    private static void isSoundAtTheEdges() {
        Tape x = Ring.withPerformers(0, 0, 0, 0, 0, 0, 0, 0, 0, 0);
        Ring.wordOf(x, 0, 0, 1111, 1110, 1110, 1110);
        Ring.wordOf(x, 0, 9, 1111);
        Ring.wordOf(x, 0, 5, 1111);
        x.challenge(0, 9, 0);
        x.begin(1, 1);
        x.barTopic(5);
        x.say(0, 300);
        Check.due("50 an open bar", true, x::isSound);
        x.closeBar();
        Check.due("50 of the last performer", true, x::isSound);
        x.say(1, 0);
        x.say(0, 25);
        x.say(1, 375);
        x.closeBar();
        Check.due("34 of the first performer", 0, () -> x.firstUser(1));
        Check.due("50 of the first performer", true, x::isSound);
        x.decide(0);
        Check.due("50 decided", true, x::isSound);
        x.challenge(0, 9, 0);
        x.begin(1, 1);
        x.say(2, 0);
        x.closeBar();
        Check.due("50 a topic that was barred ahead of this battle", true, x::isSound);
    }

    private static void isSound() {
        Tape x = Ring.withWords(3);
        Check.due("50 without performers", true, x::isSound);
        Ring.performers(x, 0, 1, 2);
        Check.due("50 with performers", true, x::isSound);
        x.challenge(0, 1, 0);
        x.begin(1, 2);
        x.barTopic(5);
        Ring.bar(x, 0, 1, 2);
        x.say(2, 375);
        x.closeBar();
        x.say(0, 0);
        x.say(0, 399 - 24);
        Check.due("50 in a battle", true, x::isSound);
        x.choke();
        Check.due("50 waiting", true, x::isSound);
        x.decide(0);
        Check.due("50 decided", true, x::isSound);
        x.challenge(2, 1, 0);
        x.begin(3, 4);
        Check.due("50 in the next battle", true, x::isSound);
    }
}
