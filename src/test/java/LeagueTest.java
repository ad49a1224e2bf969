/** Promises 12 to 18: performers, challenges and how a battle begins. */
public final class LeagueTest {
    private static final Class<?> RANGE = IllegalArgumentException.class;
    private static final Class<?> STATE = IllegalStateException.class;
    private static final Class<?> INDEX = IndexOutOfBoundsException.class;
    private static final Class<?> NOT_NOW = UnsupportedOperationException.class;

    public static void main(String[] args) {
        addPerformer();
        whatAPerformerHas();
        challenge();
        challengeThrows();
        challengeInPlaceOfAnother();
        refuse();
        refuseDownATier();
        begin();
        beginThrows();
        beginDrawsTheFirstSide();
        beginAnotherBattle();
        beginWithoutTheTopicsOfTheLast();
        Check.end();
    }

    private static void addPerformer() {
        CypherRing x = new CypherRing();
        for (int i = 0; i < 10; i++) {
            int number = i;
            Check.due("12 next", number, () -> x.addPerformer(number % 3));
        }
        Check.dueThrow(x, "12 the 11th", STATE, () -> x.addPerformer(0));
        Check.dueThrow(x, "12 range ahead of too many", RANGE, () -> x.addPerformer(3));
        CypherRing y = new CypherRing();
        Check.dueThrow(y, "12 style 3", RANGE, () -> y.addPerformer(3));
        Check.dueThrow(y, "12 style -1", RANGE, () -> y.addPerformer(-1));
        Check.due("12 the first behind wrong ones", 0, () -> y.addPerformer(2));
    }

    private static void whatAPerformerHas() {
        CypherRing x = Ring.withPerformers(0, 2);
        for (int i = 0; i < 2; i++) {
            int performer = i;
            Check.due("13 at first", 1000, () -> x.rating(performer));
            Check.due("14 at first", 1, () -> x.tier(performer));
            Check.due("15 at first", 0, () -> x.money(performer));
        }
        for (int i : new int[] {-1, 2, 10, Integer.MAX_VALUE, Integer.MIN_VALUE}) {
            Check.dueThrow(x, "13 no such performer", INDEX, () -> x.rating(i));
            Check.dueThrow(x, "14 no such performer", INDEX, () -> x.tier(i));
            Check.dueThrow(x, "15 no such performer", INDEX, () -> x.money(i));
        }
    }

    private static void challenge() {
        CypherRing x = Ring.withPerformers(0, 0);
        Check.due("16 no dodges", 0, () -> x.challenge(0, 1, 0));
        x.refuse();
        Check.due("16 one dodge", 1, () -> x.challenge(0, 1, 99999));
        Check.due("16 no dodges of the other one", 0, () -> x.challenge(1, 0, 5));
        Check.due("16 no battle by that", false, x::isOn);
    }

    private static void challengeThrows() {
        CypherRing x = Ring.withPerformers(0, 0);
        Check.dueThrow(x, "16 performer 2", INDEX, () -> x.challenge(2, 0, 0));
        Check.dueThrow(x, "16 performer -1", INDEX, () -> x.challenge(-1, 0, 0));
        Check.dueThrow(x, "16 other 2", INDEX, () -> x.challenge(0, 2, 0));
        Check.dueThrow(x, "16 other -1", INDEX, () -> x.challenge(0, -1, 0));
        Check.dueThrow(x, "16 no such one ahead of the same", INDEX, () -> x.challenge(2, 2, 0));
        Check.dueThrow(x, "16 no such one ahead of the purse", INDEX, () -> x.challenge(0, 2, -1));
        Check.dueThrow(x, "16 the same", RANGE, () -> x.challenge(1, 1, 0));
        Check.dueThrow(x, "16 purse -1", RANGE, () -> x.challenge(0, 1, -1));
        Check.dueThrow(x, "16 purse 100000", RANGE, () -> x.challenge(0, 1, 100000));
        Check.dueThrow(x, "16 none waits by those", NOT_NOW, x::refuse);
        x.challenge(0, 1, 0);
        x.begin(1, 1);
        Check.dueThrow(x, "16 in a battle", NOT_NOW, () -> x.challenge(0, 1, 0));
        Check.dueThrow(x, "16 range ahead of that", RANGE, () -> x.challenge(0, 1, -1));
        Check.dueThrow(x, "16 the same ahead of that", RANGE, () -> x.challenge(0, 0, 1));
        Ring.chokeAll(x);
        Check.dueThrow(x, "16 in a battle that waits", NOT_NOW, () -> x.challenge(0, 1, 0));
        Check.dueThrow(x, "16 none waits by that", NOT_NOW, x::refuse);
        x.decide(0);
        Check.due("16 behind a battle", 0, () -> x.challenge(0, 1, 0));
    }

    private static void challengeInPlaceOfAnother() {
        CypherRing x = Ring.withPerformers(0, 0, 0);
        x.challenge(0, 1, 10);
        x.challenge(0, 2, 20);
        Check.dueThrow("16 wrong ones leave what waits", RANGE, () -> x.challenge(0, 0, 0));
        Check.due("17 the last one is refused", 1, x::refuse);
        Check.due("17 by the last one challenged", 1, () -> x.challenge(0, 2, 0));
        Check.due("17 not by the first one", 0, () -> x.challenge(0, 1, 30));
        x.challenge(2, 1, 40);
        Check.due("18 of the last one", 1, () -> x.begin(1, 1));
        Ring.chokeAll(x);
        x.decide(0);
        Check.due("18 with its purse", 20, () -> x.money(2));
        Check.due("18 without the first one", 0, () -> x.money(0));
    }

    private static void refuse() {
        CypherRing x = Ring.withPerformers(0, 0, 0);
        Check.dueThrow(x, "17 none waits", NOT_NOW, x::refuse);
        x.challenge(0, 1, 0);
        Check.due("17 the first dodge", 1, x::refuse);
        Check.dueThrow(x, "17 none waits any longer", NOT_NOW, x::refuse);
        x.challenge(2, 1, 0);
        Check.due("17 the second dodge", 2, x::refuse);
        x.challenge(1, 2, 0);
        Check.due("17 the first one of another", 1, x::refuse);
        x.challenge(1, 2, 0);
        x.begin(1, 1);
        Check.dueThrow(x, "17 it began", NOT_NOW, x::refuse);
        Check.due("17 no dodge by that", 1, () -> {
            Ring.chokeAll(x);
            x.decide(0);
            return x.challenge(1, 2, 0);
        });
    }

    private static void refuseDownATier() {
        CypherRing x = Ring.withPerformers(0, 0);
        for (int i = 1; i <= 7; i++) {
            int dodges = i;
            x.challenge(0, 1, 0);
            Check.due("17 dodge", dodges, x::refuse);
            Check.due("17 tier behind dodge " + dodges, dodges < 3 ? 1 : 2, () -> x.tier(1));
        }
        Check.due("17 not the challenger's", 1, () -> x.tier(0));
    }

    private static void begin() {
        CypherRing x = Ring.withPerformers(0, 0);
        x.challenge(0, 1, 0);
        Check.due("18 the challenged one is first", 1, () -> x.begin(3, 4));
        Check.due("18 it is on", true, x::isOn);
        Check.due("18 side 0", 0, x::side);
        Check.due("18 round 0", 0, x::round);
        for (int turn = 0; turn < 6; turn++) {
            int round = turn / 2;
            Check.due("18 three rounds", round, x::round);
            x.choke();
        }
        Check.dueThrow("18 and no more", STATE, x::round);
    }

    private static void beginThrows() {
        CypherRing x = Ring.withPerformers(0, 0);
        Check.dueThrow(x, "18 none waits", NOT_NOW, () -> x.begin(1, 1));
        Check.dueThrow(x, "18 range ahead of that", RANGE, () -> x.begin(0, 1));
        x.challenge(0, 1, 0);
        Check.dueThrow(x, "18 no rounds", RANGE, () -> x.begin(0, 1));
        Check.dueThrow(x, "18 4 rounds", RANGE, () -> x.begin(4, 1));
        Check.dueThrow(x, "18 no bars", RANGE, () -> x.begin(1, 0));
        Check.dueThrow(x, "18 5 bars", RANGE, () -> x.begin(1, 5));
        Check.due("18 it still waits, and z is as it was", 1, () -> x.begin(1, 1));
        Check.dueThrow(x, "18 it waits no longer", NOT_NOW, () -> x.begin(1, 1));
        Ring.chokeAll(x);
        Check.dueThrow(x, "18 none waits behind the turns", NOT_NOW, () -> x.begin(1, 1));
        x.decide(0);
        Check.dueThrow(x, "18 none waits behind the decision", NOT_NOW, () -> x.begin(1, 1));
    }

    private static void beginDrawsTheFirstSide() {
        CypherRing x = Ring.withPerformers(0, 0);
        long z = 1;
        for (int i = 0; i < 60; i++) {
            z = z * 48271 % 2147483647;
            int first = (int) (z % 2);
            x.challenge(0, 1, 0);
            Check.due("18 first of battle " + i, first, () -> x.begin(1, 1));
            x.choke();
            x.choke();
            x.decide(0);
        }
    }

    private static void beginAnotherBattle() {
        CypherRing x = Ring.inBattle(3, 1, 1);
        x.barTopic(9);
        x.barTopic(4);
        x.barTopic(5);
        x.say(0, 0);
        x.restart();
        Ring.bar(x, 0, 1);
        Ring.bar(x, 2);
        x.decide(0);
        x.challenge(0, 1, 0);
        Check.due("18 the challenger is first", 0, () -> x.begin(2, 2));
        Check.due("18 no bars any longer", 0, x::bars);
        Check.dueThrow("18 no bar 0", INDEX, () -> x.landings(0));
        Check.due("18 topics are no longer barred", 1, () -> x.barTopic(9));
        Check.due("18 topics are no longer barred", 2, () -> x.barTopic(4));
        Check.due("18 a side can begin anew once more", 0, x::restart);
        Check.due("18 the open bar is empty", 1, () -> x.say(2, 0));
        x.say(1, 25);
        Check.due("18 numbered from 0", 0, x::closeBar);
        Check.due("18 answers nothing of the battle before", 0, () -> x.answers(0));
        x.choke();
        x.say(0, 0);
        x.say(1, 25);
        x.closeBar();
        Check.due("18 answers this battle alone", 1, () -> x.answers(1));
    }

    private static void beginWithoutTheTopicsOfTheLast() {
        CypherRing x = Ring.inBattle(1, 1, 1);
        x.barTopic(0);
        Ring.chokeAll(x);
        x.decide(0);
        x.challenge(0, 1, 0);
        x.begin(1, 1);
        Check.due("18 a word of a topic that was barred", 1, () -> x.say(0, 0));
        Check.dueThrow(x, "20 a word was said", NOT_NOW, () -> x.barTopic(0));
    }
}
