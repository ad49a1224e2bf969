/** Promises 12 to 18: performers, challenges and how a battle begins. */
public final class LeagueTest {
    private static final Class<?> RANGE = IllegalArgumentException.class;
    private static final Class<?> STATE = IllegalStateException.class;
    private static final Class<?> INDEX = IndexOutOfBoundsException.class;
    private static final Class<?> NOT_NOW = UnsupportedOperationException.class;

    public static void main(String[] args) {
        addPerformer();
        whatAPerformerHas();
        challenge();
        challengeOfTheFirstAndTheLast();
        challengeThrows();
        challengeOneTierApart();
        challengeInPlaceOfAnother();
        refuse();
        refuseDownATier();
        refuseDownATierAgain();
        refuseThrows();
        begin();
        beginWithRoundsAndBars();
        beginThrows();
        beginDrawsTheFirstSide();
        beginAnotherBattle();
        beginWithoutTheTopicsOfTheLast();
        Check.end();
    }

    private static void addPerformer() {
        Tape x = new Tape();
        Check.dueThrowBeyond(x, "12 the first one, style", RANGE, 0, 2, x::addPerformer);
        for (int i = 0; i < 10; i++) {
            int number = i;
            Check.due("12 next", number, () -> x.addPerformer(number % 3));
        }
        Check.dueThrow(x, "12 the 11th", STATE, () -> x.addPerformer(0));
        Check.dueThrowBeyond(x, "12 the 11th, style", RANGE, 0, 2, x::addPerformer);
    }

    private static void whatAPerformerHas() {
        Tape x = new Tape();
        whatNoPerformerHas(x, 0);
        Ring.performers(x, 0, 2);
        for (int i = 0; i < 2; i++) {
            whatAPerformerHasAtFirst(x, i);
        }
        whatNoPerformerHas(x, 2);
        Ring.performers(x, 0, 1, 2, 0, 1, 2, 0, 1);
        whatAPerformerHasAtFirst(x, 9);
        whatNoPerformerHas(x, 10);
    }

    private static void whatAPerformerHasAtFirst(Tape x, int performer) {
        Check.due("13 at first, of " + performer, 1000, () -> x.rating(performer));
        Check.due("14 at first, of " + performer, 1, () -> x.tier(performer));
        Check.due("15 at first, of " + performer, 0, () -> x.money(performer));
    }

    private static void whatNoPerformerHas(Tape x, int performers) {
        String of = " of " + performers + ", performer";
        Check.dueThrowBeyond(x, "13" + of, INDEX, 0, performers - 1, x::rating);
        Check.dueThrowBeyond(x, "14" + of, INDEX, 0, performers - 1, x::tier);
        Check.dueThrowBeyond(x, "15" + of, INDEX, 0, performers - 1, x::money);
    }

    private static void challenge() {
        Tape x = Ring.withPerformers(0, 0);
        Check.due("16 no dodges", 0, () -> x.challenge(0, 1, 0));
        x.refuse();
        Check.due("16 one dodge", 1, () -> x.challenge(0, 1, 99999));
        Check.due("16 no dodges of the other one", 0, () -> x.challenge(1, 0, 5));
        Check.due("16 no battle by that", false, x::isOn);
    }

    private static void challengeOfTheFirstAndTheLast() {
        Tape x = Ring.withPerformers(0, 1, 2, 0, 1, 2, 0, 1, 2, 0);
        Check.due("16 the last one", 0, () -> x.challenge(0, 9, 0));
        Check.due("16 by the last one, for most", 0, () -> x.challenge(9, 0, 99999));
        Check.due("16 the first one begins", 0, () -> x.begin(1, 1));
        Ring.chokeAll(x);
        x.decide(0);
        Check.due("16 half of the largest purse", 49999, () -> x.money(9));
    }

    private static void challengeThrows() {
        Tape x = new Tape();
        Check.dueThrow(x, "16 no performers", INDEX, () -> x.challenge(0, 0, -1));
        Ring.performers(x, 0, 0);
        challengeOutOfRange(x, "at first");
        Check.dueThrow(x, "16 none waits by those", NOT_NOW, x::refuse);
        x.challenge(0, 1, 7);
        challengeOutOfRange(x, "while one waits");
        Check.due("16 the one that waits stays", 1, () -> x.begin(1, 1));
        Check.dueThrow(x, "16 in a battle", NOT_NOW, () -> x.challenge(0, 1, 0));
        challengeOutOfRange(x, "in a battle");
        Ring.chokeAll(x);
        Check.dueThrow(x, "16 in a battle that waits", NOT_NOW, () -> x.challenge(0, 1, 0));
        challengeOutOfRange(x, "in a battle that waits");
        Check.dueThrow(x, "16 none waits by that", NOT_NOW, x::refuse);
        x.decide(0);
        Check.due("16 by the purse that was told first", 3, () -> x.money(0));
        Check.due("16 behind a battle", 0, () -> x.challenge(0, 1, 0));
    }

    /** All that is refused by what was told, ahead of whether a battle goes on. */
    private static void challengeOutOfRange(Tape x, String when) {
        String what = "16 " + when;
        for (int purse : new int[] {0, -1}) {
            Check.dueThrowBeyond(x, what + ", performer", INDEX, 0, 1, n -> x.challenge(n, 0, purse));
            Check.dueThrowBeyond(x, what + ", other", INDEX, 0, 1, n -> x.challenge(0, n, purse));
            Check.dueThrowBeyond(x, what + ", both", INDEX, 0, 1, n -> x.challenge(n, n, purse));
        }
        Check.dueThrow(x, what + ", the first one itself", RANGE, () -> x.challenge(0, 0, 0));
        Check.dueThrow(x, what + ", the last one itself", RANGE, () -> x.challenge(1, 1, 99999));
        Check.dueThrowBeyond(x, what + ", purse", RANGE, 0, 99999, n -> x.challenge(0, 1, n));
    }

    private static void challengeOneTierApart() {
        Tape x = Ring.withPerformers(0, 0);
        downATier(x, 0, 1);
        Check.due("16 one tier lower", 3, () -> x.challenge(0, 1, 0));
        Check.due("16 one tier higher", 0, () -> x.challenge(1, 0, 0));
        downATier(x, 1, 0);
        Check.due("16 both in the lowest", 3, () -> x.challenge(0, 1, 0));
    }

    private static void downATier(Tape x, int challenger, int other) {
        for (int i = 0; i < 3; i++) {
            x.challenge(challenger, other, 0);
            x.refuse();
        }
        Check.due("14 down a tier", 2, () -> x.tier(other));
    }

    private static void challengeInPlaceOfAnother() {
        Tape x = Ring.withPerformers(0, 0, 0);
        x.challenge(0, 1, 10);
        x.challenge(0, 2, 20);
        Check.dueThrow(x, "16 wrong ones leave what waits", RANGE, () -> x.challenge(0, 0, 0));
        Check.due("17 the last one is refused", 1, x::refuse);
        Check.due("17 by the last one challenged", 1, () -> x.challenge(0, 2, 0));
        Check.due("17 not by the first one", 0, () -> x.challenge(0, 1, 30));
        x.challenge(2, 1, 40);
        Check.due("18 of the last one", 1, () -> x.begin(1, 1));
        Ring.chokeAll(x);
        x.decide(0);
        Check.due("18 with its purse", 20, () -> x.money(2));
        Check.due("18 without the first one", 0, () -> x.money(0));
    }

    private static void refuse() {
        Tape x = Ring.withPerformers(0, 0, 0);
        Check.dueThrow(x, "17 none waits", NOT_NOW, x::refuse);
        x.challenge(0, 1, 0);
        Check.due("17 the first dodge", 1, x::refuse);
        Check.dueThrow(x, "17 none waits any longer", NOT_NOW, x::refuse);
        x.challenge(2, 1, 0);
        Check.due("17 the second dodge", 2, x::refuse);
        x.challenge(1, 2, 0);
        Check.due("17 the first one of another", 1, x::refuse);
        x.challenge(1, 2, 0);
        x.begin(1, 1);
        Check.dueThrow(x, "17 it began", NOT_NOW, x::refuse);
        Check.due("17 no dodge by that", 1, () -> {
            Ring.chokeAll(x);
            x.decide(0);
            return x.challenge(1, 2, 0);
        });
    }

    private static void refuseDownATier() {
        Tape x = Ring.withPerformers(0, 0);
        for (int i = 1; i <= 7; i++) {
            int dodges = i;
            x.challenge(0, 1, 0);
            Check.due("17 dodge", dodges, x::refuse);
            Check.due("17 tier behind dodge " + dodges, dodges < 3 ? 1 : 2, () -> x.tier(1));
        }
        Check.due("17 not the challenger's", 1, () -> x.tier(0));
    }

    /** One who dodged three times comes up by a battle, and goes down again by the sixth dodge. */
    private static void refuseDownATierAgain() {
        Tape x = Ring.withPerformers(0, 0);
        Ring.word(x, 1111);
        downATier(x, 0, 1);
        x.challenge(0, 1, 0);
        x.begin(1, 1);
        Ring.bar(x, 0);
        x.choke();
        Check.due("41 the one below wins", 1, () -> x.decide(0));
        for (int i = 4; i <= 6; i++) {
            int dodges = i;
            Check.due("14 ahead of dodge " + dodges, 1, () -> x.tier(1));
            x.challenge(0, 1, 0);
            Check.due("17 dodge", dodges, x::refuse);
        }
        Check.due("17 down a tier with the sixth dodge", 2, () -> x.tier(1));
    }

    private static void refuseThrows() {
        Tape x = new Tape();
        Check.dueThrow(x, "17 a new object", NOT_NOW, x::refuse);
        Ring.performers(x, 0, 0);
        x.challenge(0, 1, 0);
        x.begin(1, 1);
        Check.dueThrow(x, "17 in the battle", NOT_NOW, x::refuse);
        Ring.chokeAll(x);
        Check.dueThrow(x, "17 behind the turns", NOT_NOW, x::refuse);
        x.decide(0);
        Check.dueThrow(x, "17 behind the decision", NOT_NOW, x::refuse);
    }

    private static void begin() {
        Tape x = Ring.withPerformers(0, 0);
        x.challenge(0, 1, 0);
        Check.due("18 the challenged one is first", 1, () -> x.begin(3, 4));
        Check.due("18 it is on", true, x::isOn);
        Check.due("18 side 0", 0, x::side);
        Check.due("18 round 0", 0, x::round);
    }

    private static void beginWithRoundsAndBars() {
        for (int rounds = 1; rounds <= 3; rounds++) {
            for (int bars = 1; bars <= 4; bars++) {
                battleOf(rounds, bars);
            }
        }
    }

    /** A battle has as many turns for each side, each of as many bars, and not one more. */
    private static void battleOf(int rounds, int bars) {
        String of = " of " + rounds + " rounds of " + bars + " bars";
        Tape x = Ring.inBattle(1, rounds, bars);
        for (int i = 0; i < 2 * rounds * bars; i++) {
            int bar = i;
            int turn = bar / bars;
            Check.due("21 bar " + bar + of, turn % 2, x::side);
            Check.due("22 bar " + bar + of, turn / 2, x::round);
            Check.due("24 bar " + bar + of, bar, () -> Ring.bar(x, 0));
        }
        Check.dueThrow(x, "21 behind all" + of, STATE, x::side);
        Check.dueThrow(x, "22 behind all" + of, STATE, x::round);
        Check.due("27 all" + of, 2 * rounds * bars, x::bars);
        Check.due("19 waits" + of, true, x::isOn);
    }

    private static void beginThrows() {
        Tape x = Ring.withPerformers(0, 0);
        beginWithoutOneThatWaits(x, "at first");
        x.challenge(0, 1, 0);
        beginOutOfRange(x, "while one waits");
        Check.due("18 it still waits, and z is as it was", 1, () -> x.begin(1, 1));
        beginWithoutOneThatWaits(x, "in the battle");
        Ring.chokeAll(x);
        beginWithoutOneThatWaits(x, "behind the turns");
        x.decide(0);
        beginWithoutOneThatWaits(x, "behind the decision");
        x.challenge(0, 1, 0);
        x.refuse();
        beginWithoutOneThatWaits(x, "behind a dodge");
        x.challenge(0, 1, 0);
        Check.due("18 z went on by battles alone", 0, () -> x.begin(1, 1));
    }

    private static void beginWithoutOneThatWaits(Tape x, String when) {
        Check.dueThrow(x, "18 none waits " + when, NOT_NOW, () -> x.begin(1, 1));
        Check.dueThrow(x, "18 none waits " + when + ", most", NOT_NOW, () -> x.begin(3, 4));
        beginOutOfRange(x, when);
    }

    private static void beginOutOfRange(Tape x, String when) {
        Check.dueThrowBeyond(x, "18 " + when + ", rounds", RANGE, 1, 3, n -> x.begin(n, 1));
        Check.dueThrowBeyond(x, "18 " + when + ", bars", RANGE, 1, 4, n -> x.begin(1, n));
    }

    private static void beginDrawsTheFirstSide() {
        Tape x = Ring.withPerformers(0, 0);
        long z = 1;
        for (int i = 0; i < 60; i++) {
            z = z * 48271 % 2147483647;
            int first = (int) (z % 2);
            x.challenge(0, 1, 0);
            Check.due("18 first of battle " + i, first, () -> x.begin(1, 1));
            x.choke();
            x.choke();
            x.decide(0);
        }
    }

    private static void beginAnotherBattle() {
        Tape x = Ring.inBattle(3, 1, 1);
        x.barTopic(9);
        x.barTopic(4);
        x.barTopic(5);
        x.say(0, 0);
        x.restart();
        Ring.bar(x, 0, 1);
        Ring.bar(x, 2);
        x.decide(0);
        x.challenge(0, 1, 0);
        Check.due("18 the challenger is first", 0, () -> x.begin(2, 2));
        Check.due("18 no bars any longer", 0, x::bars);
        Check.dueThrow(x, "18 no bar 0", INDEX, () -> x.landings(0));
        Check.due("18 topics are no longer barred", 1, () -> x.barTopic(9));
        Check.due("18 topics are no longer barred", 2, () -> x.barTopic(4));
        Check.due("18 a side can begin anew once more", 0, x::restart);
        Check.due("18 the open bar is empty", 1, () -> x.say(2, 0));
        x.say(1, 25);
        Check.due("18 numbered from 0", 0, x::closeBar);
        Check.due("18 answers nothing of the battle before", 0, () -> x.answers(0));
        x.choke();
        x.say(0, 0);
        x.say(1, 25);
        x.closeBar();
        Check.due("18 answers this battle alone", 1, () -> x.answers(1));
    }

    private static void beginWithoutTheTopicsOfTheLast() {
        Tape x = Ring.inBattle(1, 1, 1);
        x.barTopic(0);
        Ring.chokeAll(x);
        x.decide(0);
        x.challenge(0, 1, 0);
        x.begin(1, 1);
        Check.due("18 a word of a topic that was barred", 1, () -> x.say(0, 0));
        Check.dueThrow(x, "20 a word was said", NOT_NOW, () -> x.barTopic(0));
    }
}
