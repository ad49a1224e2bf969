/** Promises 42 to 50: samples, and figures over the ring. */
public final class FiguresTest {
    private static final Class<?> RANGE = IllegalArgumentException.class;
    private static final Class<?> STATE = IllegalStateException.class;
    private static final Class<?> INDEX = IndexOutOfBoundsException.class;
    private static final Class<?> NOT_NOW = UnsupportedOperationException.class;
    private static final Class<?> NO_SHARE = ArithmeticException.class;

    public static void main(String[] args) {
        addSample();
        needsClearing();
        clear();
        clearThrows();
        paid();
        elapsed();
        checksum();
        checksumOfBars();
        landedShare();
        meanRating();
        isSound();
        Check.end();
    }

    private static void addSample() {
        CypherRing x = new CypherRing();
        Check.dueThrow(x, "42 source -1", RANGE, () -> x.addSample(-1, 1, 0));
        Check.dueThrow(x, "42 source 10", RANGE, () -> x.addSample(10, 1, 0));
        Check.dueThrow(x, "42 tenths 0", RANGE, () -> x.addSample(0, 0, 0));
        Check.dueThrow(x, "42 tenths 100", RANGE, () -> x.addSample(0, 100, 0));
        Check.dueThrow(x, "42 likeness -1", RANGE, () -> x.addSample(0, 1, -1));
        Check.dueThrow(x, "42 likeness 101", RANGE, () -> x.addSample(0, 1, 101));
        for (int i = 0; i < 10; i++) {
            int source = i;
            Check.due("42 next", i, () -> x.addSample(source, 1 + 98 * (source % 2), 100 * (source % 2)));
        }
        Check.dueThrow(x, "42 the 11th", STATE, () -> x.addSample(0, 1, 0));
        Check.dueThrow(x, "42 range ahead of too many", RANGE, () -> x.addSample(0, 0, 0));
    }

    private static void needsClearing() {
        CypherRing x = new CypherRing();
        x.addSample(0, 5, 100);
        x.addSample(0, 10, 50);
        Check.dueThrow("42 a wrong one", RANGE, () -> x.addSample(0, 3, 167));
        Check.dueThrow("43 a wrong one adds none", INDEX, () -> x.needsClearing(2));
        x.addSample(0, 7, 72);
        x.addSample(0, 99, 0);
        Check.due("43 500", false, () -> x.needsClearing(0));
        Check.due("43 500 again", false, () -> x.needsClearing(1));
        Check.due("43 504", true, () -> x.needsClearing(2));
        Check.due("43 0", false, () -> x.needsClearing(3));
        Check.dueThrow(x, "43 sample 4", INDEX, () -> x.needsClearing(4));
        Check.dueThrow(x, "43 sample -1", INDEX, () -> x.needsClearing(-1));
    }

    private static void clear() {
        CypherRing x = Ring.withPerformers(0, 0);
        x.addSample(9, 99, 100);
        x.addSample(9, 7, 73);
        x.addSample(9, 99, 100);
        Check.due("44 9900 divided by 10", 990, () -> x.clear(0, 1));
        Check.due("44 511 divided by 10, cut", 51, () -> x.clear(1, 1));
        Check.due("15 below 0", -1041, () -> x.money(1));
        Check.due("15 not another's", 0, () -> x.money(0));
        Check.due("43 cleared", false, () -> x.needsClearing(0));
        Check.due("43 not cleared", true, () -> x.needsClearing(2));
        Check.due("45 paid for both", 1041, () -> x.paid(9));
        Check.due("44 for another performer", 990, () -> x.clear(2, 0));
        Check.due("15 of the other one", -990, () -> x.money(0));
        Check.due("13 ratings stay", 1000, () -> x.rating(1));
    }

    private static void clearThrows() {
        CypherRing x = Ring.withPerformers(0);
        Check.dueThrow(x, "44 no sample", INDEX, () -> x.clear(0, 0));
        x.addSample(3, 50, 10);
        x.addSample(3, 50, 11);
        Check.dueThrow(x, "44 sample -1", INDEX, () -> x.clear(-1, 0));
        Check.dueThrow(x, "44 sample 2", INDEX, () -> x.clear(2, 0));
        Check.dueThrow(x, "44 performer 1", INDEX, () -> x.clear(1, 1));
        Check.dueThrow(x, "44 performer -1", INDEX, () -> x.clear(1, -1));
        Check.dueThrow(x, "44 no performer ahead of no need", INDEX, () -> x.clear(0, 1));
        Check.dueThrow(x, "44 needs none", NOT_NOW, () -> x.clear(0, 0));
        Check.due("44 550 divided by 10", 55, () -> x.clear(1, 0));
        Check.dueThrow(x, "44 needs none any longer", NOT_NOW, () -> x.clear(1, 0));
        Check.due("45 paid once", 55, () -> x.paid(3));
    }

    private static void paid() {
        CypherRing x = Ring.withPerformers(0);
        for (int i = 0; i < 10; i++) {
            int source = i;
            Check.due("45 at first", 0, () -> x.paid(source));
        }
        x.addSample(0, 99, 100);
        Check.due("45 not by adding", 0, () -> x.paid(0));
        Check.dueThrow(x, "45 source -1", RANGE, () -> x.paid(-1));
        Check.dueThrow(x, "45 source 10", RANGE, () -> x.paid(10));
    }

    private static void elapsed() {
        CypherRing x = Ring.withWords(1);
        Ring.performers(x, 0, 0);
        Check.due("46 at first", 0L, x::elapsed);
        x.challenge(0, 1, 0);
        x.begin(1, 2);
        x.say(0, 0);
        Check.due("46 an open bar", 0L, x::elapsed);
        x.closeBar();
        Check.due("46 one bar", 2666L, x::elapsed);
        x.say(0, 0);
        x.choke();
        Check.due("46 a lost bar", 2666L, x::elapsed);
        Ring.bar(x, 0);
        x.choke();
        Check.due("46 two bars", 5332L, x::elapsed);
        x.decide(0);
        x.setBeat(180, 0);
        Check.due("46 by the beat as it was", 5332L, x::elapsed);
        x.challenge(0, 1, 0);
        x.begin(1, 2);
        Ring.bar(x, 0);
        Check.due("46 over all battles", 5332L + 1333L, x::elapsed);
    }

    private static void checksum() {
        CypherRing x = new CypherRing();
        Check.due("47 at first", 7L, x::checksum);
        x.addPerformer(2);
        long one = ((7L * 31 + 1000) * 31 + 1) * 31;
        Check.due("47 a performer", one, x::checksum);
        x.addPerformer(1);
        Check.due("47 two performers", ((one * 31 + 1000) * 31 + 1) * 31, x::checksum);
        x.addSample(0, 99, 100);
        x.clear(0, 1);
        long paid = ((one * 31 + 1000) * 31 + 1) * 31 - 990;
        Check.due("47 money below 0", paid, x::checksum);
        for (int i = 0; i < 3; i++) {
            x.challenge(0, 1, 0);
            x.refuse();
        }
        Check.due("47 a lower tier", paid + 31, x::checksum);
    }

    private static void checksumOfBars() {
        CypherRing x = Ring.inBattle(4, 1, 2);
        long sum = 7;
        for (int i = 0; i < 2; i++) {
            sum = ((sum * 31 + 1000) * 31 + 1) * 31;
        }
        long none = sum;
        Check.due("47 no bar", none, x::checksum);
        x.say(3, 0);
        x.say(1, 25);
        Check.due("47 an open bar", none, x::checksum);
        x.closeBar();
        long first = ((none * 31 + 2) * 31 + 3) * 31 + 1;
        Check.due("47 one bar", first, x::checksum);
        Ring.bar(x, 0);
        long second = (first * 31 + 1) * 31;
        Check.due("47 two bars", second, x::checksum);
        x.choke();
        x.decide(0);
        x.challenge(0, 1, 0);
        long decided = 7;
        for (int performer = 0; performer < 2; performer++) {
            decided = decided * 31 + x.rating(performer);
            decided = decided * 31 + x.tier(performer);
            decided = decided * 31 + x.money(performer);
        }
        long withBars = ((((decided * 31 + 2) * 31 + 3) * 31 + 1) * 31 + 1) * 31;
        Check.due("47 bars stay behind the decision", withBars, x::checksum);
        x.begin(1, 1);
        long allGone = decided;
        Check.due("47 bars are gone with a new battle", allGone, x::checksum);
    }

    private static void landedShare() {
        CypherRing x = Ring.withWords(1);
        Ring.performers(x, 0, 0);
        Check.dueThrow(x, "48 no battle", NO_SHARE, x::landedShare);
        x.challenge(0, 1, 0);
        x.begin(1, 3);
        x.say(0, 0);
        Check.dueThrow(x, "48 an open bar", NO_SHARE, x::landedShare);
        x.closeBar();
        Check.due("48 all", 1.0f, x::landedShare);
        x.say(0, 50);
        x.say(0, 150);
        x.closeBar();
        Check.due("48 a third", 1.0f / 3.0f, x::landedShare);
        x.say(0, 100);
        Check.due("48 without the open bar", 1.0f / 3.0f, x::landedShare);
        x.choke();
        x.say(0, 100);
        x.closeBar();
        Check.due("48 of both sides", 0.5f, x::landedShare);
        x.choke();
        x.decide(0);
        Check.due("48 decided", 0.5f, x::landedShare);
        x.challenge(0, 1, 0);
        x.begin(1, 3);
        Check.dueThrow(x, "48 a new battle", NO_SHARE, x::landedShare);
        Ring.bar(x, 0);
        Check.due("48 bars that were heard, too", 1.0f, x::landedShare);
    }

    private static void meanRating() {
        CypherRing x = Ring.withWords(2);
        Check.dueThrow(x, "49 none", NO_SHARE, x::meanRating);
        x.addPerformer(0);
        Check.due("49 one", 1000.0, x::meanRating);
        x.addPerformer(1);
        x.addPerformer(2);
        x.challenge(0, 1, 0);
        x.begin(1, 1);
        Ring.bar(x, 0);
        x.choke();
        x.decide(0);
        Check.due("49 behind a decision", 1000.0, x::meanRating);
    }

    private static void isSound() {
        CypherRing x = Ring.withWords(3);
        Check.due("50 without performers", true, x::isSound);
        Ring.performers(x, 0, 1, 2);
        Check.due("50 with performers", true, x::isSound);
        x.challenge(0, 1, 0);
        x.begin(1, 2);
        x.barTopic(5);
        Ring.bar(x, 0, 1, 2);
        x.say(2, 375);
        x.closeBar();
        x.say(0, 0);
        x.say(0, 399 - 24);
        Check.due("50 in a battle", true, x::isSound);
        x.choke();
        Check.due("50 waiting", true, x::isSound);
        x.decide(0);
        Check.due("50 decided", true, x::isSound);
        x.challenge(2, 1, 0);
        x.begin(3, 4);
        Check.due("50 in the next battle", true, x::isSound);
    }
}
