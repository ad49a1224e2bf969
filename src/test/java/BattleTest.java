import java.util.NoSuchElementException;

/** Promises 19 to 35: turns, words said, and what is told of bars. */
public final class BattleTest {
    private static final Class<?> RANGE = IllegalArgumentException.class;
    private static final Class<?> STATE = IllegalStateException.class;
    private static final Class<?> INDEX = IndexOutOfBoundsException.class;
    private static final Class<?> NOT_NOW = UnsupportedOperationException.class;
    private static final Class<?> NONE = NoSuchElementException.class;

    public static void main(String[] args) {
        isOn();
        barTopic();
        barTopicThrows();
        barTopicAheadOfAllWords();
        sideAndRound();
        say();
        sayThrows();
        sayOfABarredTopic();
        closeBar();
        choke();
        restart();
        restartOnce();
        bars();
        wordAt();
        landings();
        landingsByThePocketAsItWas();
        answers();
        chain();
        chainThrows();
        wasHeard();
        languages();
        firstUser();
        read();
        theLongestBattle();
        Check.end();
    }

    private static void isOn() {
        CypherRing x = Ring.withWords(1);
        Ring.performers(x, 0, 0);
        Check.due("19 none", false, x::isOn);
        x.challenge(0, 1, 0);
        Check.due("19 a challenge", false, x::isOn);
        x.begin(1, 1);
        Check.due("19 began", true, x::isOn);
        x.choke();
        x.choke();
        Check.due("19 waits", true, x::isOn);
        x.decide(0);
        Check.due("19 decided", false, x::isOn);
    }

    private static void barTopic() {
        CypherRing x = Ring.inBattle(1, 1, 1);
        Check.due("20 one", 1, () -> x.barTopic(9));
        Check.due("20 two", 2, () -> x.barTopic(0));
        Check.dueThrow(x, "20 it is barred", NOT_NOW, () -> x.barTopic(9));
        Check.due("20 three", 3, () -> x.barTopic(4));
    }

    private static void barTopicThrows() {
        CypherRing x = Ring.withWords(1);
        Ring.performers(x, 0, 0);
        Check.dueThrow(x, "20 no battle", STATE, () -> x.barTopic(0));
        Check.dueThrow(x, "20 topic -1", RANGE, () -> x.barTopic(-1));
        x.challenge(0, 1, 0);
        Check.dueThrow(x, "20 no battle yet", STATE, () -> x.barTopic(0));
        x.begin(1, 1);
        Check.dueThrow(x, "20 topic 10", RANGE, () -> x.barTopic(10));
        x.choke();
        Check.dueThrow(x, "20 a turn ended", NOT_NOW, () -> x.barTopic(0));
        x.choke();
        Check.dueThrow(x, "20 all turns ended", NOT_NOW, () -> x.barTopic(0));
        Check.dueThrow(x, "20 range ahead of that", RANGE, () -> x.barTopic(10));
        x.decide(0);
        Check.dueThrow(x, "20 decided", STATE, () -> x.barTopic(0));
    }

    private static void barTopicAheadOfAllWords() {
        CypherRing x = Ring.inBattle(2, 2, 2);
        Check.due("20 ahead of all words", 1, () -> x.barTopic(1));
        x.say(0, 0);
        Check.dueThrow(x, "20 a word was said", NOT_NOW, () -> x.barTopic(2));
        x.restart();
        Check.due("20 begun anew", 2, () -> x.barTopic(2));
        Check.dueThrow("20 a wrong word is not said", NOT_NOW, () -> x.say(0, 399));
        Check.due("20 behind a wrong word", 3, () -> x.barTopic(3));
        Ring.bar(x, 0);
        Check.dueThrow(x, "20 a bar is closed", NOT_NOW, () -> x.barTopic(4));
        CypherRing y = Ring.inBattle(2, 2, 2);
        y.barTopic(0);
        y.say(0, 0);
        Check.dueThrow(y, "20 a turn ended by a barred word", NOT_NOW, () -> y.barTopic(4));
        y.restart();
        Check.dueThrow(y, "20 begun anew behind a turn", NOT_NOW, () -> y.barTopic(4));
    }

    private static void sideAndRound() {
        CypherRing x = Ring.withWords(2);
        Ring.performers(x, 0, 0);
        Check.dueThrow(x, "21 no battle", STATE, x::side);
        Check.dueThrow(x, "22 no battle", STATE, x::round);
        x.challenge(0, 1, 0);
        x.begin(3, 2);
        for (int round = 0; round < 3; round++) {
            for (int side = 0; side < 2; side++) {
                Check.due("21 side", side, x::side);
                Check.due("22 round", round, x::round);
                Ring.bar(x, 0);
                Check.due("21 side, one bar closed", side, x::side);
                Check.due("22 round, one bar closed", round, x::round);
                Ring.bar(x, 1);
            }
        }
        Check.dueThrow(x, "21 it waits", STATE, x::side);
        Check.dueThrow(x, "22 it waits", STATE, x::round);
        x.decide(0);
        Check.dueThrow(x, "21 decided", STATE, x::side);
        Check.dueThrow(x, "22 decided", STATE, x::round);
    }

    private static void say() {
        CypherRing x = Ring.inBattle(1, 1, 2);
        Ring.word(x, 1230, 1231, 1230);
        Check.due("23 at 0", 1, () -> x.say(0, 0));
        Check.due("23 right behind", 2, () -> x.say(1, 25));
        Check.dueThrow(x, "23 ahead of the end", NOT_NOW, () -> x.say(0, 99));
        Check.due("23 at the end", 3, () -> x.say(0, 100));
        Check.dueThrow(x, "23 ends at 401", NOT_NOW, () -> x.say(1, 326));
        Check.due("23 ends at 400", 4, () -> x.say(1, 325));
        Check.dueThrow(x, "23 no place behind", NOT_NOW, () -> x.say(0, 399));
        x.closeBar();
        Check.due("23 a new bar from 0", 1, () -> x.say(1, 0));
        x.choke();
        Check.due("23 a new turn from 0", 1, () -> x.say(1, 0));
        x.restart();
        Check.due("23 begun anew from 0", 1, () -> x.say(1, 0));
        x.closeBar();
        for (int i = 0; i < 16; i++) {
            int at = 25 * i;
            Check.due("23 sixteen words", i + 1, () -> x.say(0, at));
        }
        Check.due("23 sixteen words are closed", 2, x::closeBar);
    }

    private static void sayThrows() {
        CypherRing x = Ring.withWords(1);
        Ring.performers(x, 0, 0);
        Check.dueThrow(x, "23 no battle", STATE, () -> x.say(0, 0));
        Check.dueThrow(x, "23 word ahead of that", INDEX, () -> x.say(1, 0));
        Check.dueThrow(x, "23 range ahead of that", RANGE, () -> x.say(0, 400));
        x.challenge(0, 1, 0);
        x.begin(1, 1);
        Check.dueThrow(x, "23 word 1", INDEX, () -> x.say(1, 0));
        Check.dueThrow(x, "23 word -1", INDEX, () -> x.say(-1, 0));
        Check.dueThrow(x, "23 word ahead of range", INDEX, () -> x.say(1, 400));
        Check.dueThrow(x, "23 at 400", RANGE, () -> x.say(0, 400));
        Check.dueThrow(x, "23 at -1", RANGE, () -> x.say(0, -1));
        Check.dueThrow(x, "23 at the greatest int", RANGE, () -> x.say(0, Integer.MAX_VALUE));
        Check.dueThrow(x, "23 ends behind 400", NOT_NOW, () -> x.say(0, 376));
        Check.due("23 the last place", 1, () -> x.say(0, 375));
        x.choke();
        x.choke();
        Check.dueThrow(x, "23 it waits", STATE, () -> x.say(0, 0));
        Check.dueThrow(x, "23 it waits, whatever the place", STATE, () -> x.say(0, 399));
        x.decide(0);
        Check.dueThrow(x, "23 decided", STATE, () -> x.say(0, 0));
    }

    private static void sayOfABarredTopic() {
        CypherRing x = Ring.inBattle(2, 2, 2);
        int barred = Ring.wordOf(x, 0, 7, 9791);
        x.barTopic(7);
        Ring.bar(x, 0);
        x.say(1, 100);
        Check.dueThrow(x, "23 a wrong place ahead of the topic", NOT_NOW, () -> x.say(barred, 124));
        Check.dueThrow(x, "23 a wrong end ahead of the topic", NOT_NOW, () -> x.say(barred, 376));
        Check.due("23 a barred one ends the turn", -1, () -> x.say(barred, 125));
        Check.due("23 the other side's turn", 1, x::side);
        Check.due("23 the open bar is lost", 1, x::bars);
        Check.due("23 the next bar is empty", 1, () -> x.say(0, 0));
        Check.due("23 the next bar's number", 1, x::closeBar);
        Check.dueThrow("23 the barred one is not said", NONE, () -> x.firstUser(barred));
        Check.dueThrow("23 the lost one is not said in a closed bar", NONE, () -> x.firstUser(1));
        Check.due("23 ends the next turn, too", -1, () -> x.say(barred, 0));
        Check.due("23 round 1", 1, x::round);
        x.say(barred, 0);
        x.say(barred, 0);
        Check.due("23 it waits", true, x::isOn);
        Check.dueThrow("23 nobody has the turn", STATE, x::side);
    }

    private static void closeBar() {
        CypherRing x = Ring.withWords(2);
        Ring.performers(x, 0, 0);
        Check.dueThrow(x, "24 no battle", STATE, x::closeBar);
        x.challenge(0, 1, 0);
        x.begin(1, 2);
        Check.dueThrow(x, "24 no words", NOT_NOW, x::closeBar);
        x.say(0, 0);
        Check.due("24 the first", 0, x::closeBar);
        Check.dueThrow(x, "24 no words in the next", NOT_NOW, x::closeBar);
        x.say(1, 0);
        Check.due("24 the second", 1, x::closeBar);
        Check.due("24 the turn ends behind its bars", 1, x::side);
        x.say(1, 0);
        x.restart();
        Check.dueThrow(x, "24 words that are gone", NOT_NOW, x::closeBar);
        x.say(1, 0);
        Check.due("24 the third", 2, x::closeBar);
        x.say(1, 0);
        Check.due("24 the fourth", 3, x::closeBar);
        Check.dueThrow(x, "24 it waits", STATE, x::closeBar);
        x.decide(0);
        Check.dueThrow(x, "24 decided", STATE, x::closeBar);
    }

    private static void choke() {
        CypherRing x = Ring.withWords(2);
        Ring.performers(x, 0, 0);
        Check.dueThrow(x, "25 no battle", STATE, x::choke);
        x.challenge(0, 1, 0);
        x.begin(2, 4);
        Check.due("25 no bar", 0, x::choke);
        Check.due("25 the other side", 1, x::side);
        Ring.bar(x, 0);
        Ring.bar(x, 0);
        x.say(1, 0);
        Check.due("25 two bars", 2, x::choke);
        Check.due("25 the words of the open bar are lost", 2, x::bars);
        Check.due("25 round 1", 1, x::round);
        Ring.bar(x, 0);
        Check.due("25 one bar, of this turn", 1, x::choke);
        x.say(1, 0);
        Check.due("25 no closed bar", 0, x::choke);
        Check.dueThrow(x, "25 it waits", STATE, x::choke);
        Check.dueThrow("25 lost words have no user", NONE, () -> x.firstUser(1));
    }

    private static void restart() {
        CypherRing x = Ring.withWords(3);
        Ring.performers(x, 0, 0);
        Check.dueThrow(x, "26 no battle", STATE, x::restart);
        x.challenge(0, 1, 0);
        x.begin(2, 2);
        x.say(0, 0);
        x.say(1, 25);
        x.say(2, 50);
        Check.due("26 three words are gone", 3, x::restart);
        Check.dueThrow(x, "26 once in a battle", NOT_NOW, x::restart);
        x.say(1, 0);
        Check.dueThrow(x, "26 once, whatever was said", NOT_NOW, x::restart);
        Check.due("26 the bar goes on", 2, () -> x.say(1, 25));
        x.closeBar();
        Check.due("26 only the new words", 2, () -> x.wordAt(0, 0) + x.wordAt(0, 1));
        Check.dueThrow("26 only two words", NONE, () -> x.wordAt(0, 2));
        Check.dueThrow("26 words that are gone have no user", NONE, () -> x.firstUser(0));
        x.choke();
        Ring.bar(x, 0);
        x.say(1, 0);
        Check.dueThrow(x, "26 a bar of the turn is closed", NOT_NOW, x::restart);
        x.choke();
        Check.dueThrow(x, "26 the first side did", NOT_NOW, x::restart);
        x.choke();
        Check.due("26 the second side did not, and has no words", 0, x::restart);
        Check.dueThrow(x, "26 it did by that", NOT_NOW, x::restart);
        x.choke();
        Check.dueThrow(x, "26 it waits", STATE, x::restart);
    }

    private static void restartOnce() {
        CypherRing x = Ring.inBattle(1, 3, 1);
        x.choke();
        x.choke();
        Check.due("26 in a later round", 0, x::restart);
        x.choke();
        x.choke();
        Check.dueThrow(x, "26 not in the last round again", NOT_NOW, x::restart);
        x.choke();
        Check.due("26 the second side in the last round", 0, x::restart);
    }

    private static void bars() {
        CypherRing x = Ring.withWords(1);
        Ring.performers(x, 0, 0);
        Check.due("27 no battle", 0, x::bars);
        x.challenge(0, 1, 0);
        x.begin(1, 2);
        x.say(0, 0);
        Check.due("27 an open bar", 0, x::bars);
        x.closeBar();
        Check.due("27 a closed bar", 1, x::bars);
        x.choke();
        Ring.bar(x, 0);
        Ring.bar(x, 0);
        Check.due("27 of both sides", 3, x::bars);
        x.decide(0);
        Check.due("27 decided", 3, x::bars);
        x.challenge(0, 1, 0);
        Check.due("27 challenged", 3, x::bars);
        x.begin(1, 1);
        Check.due("27 a new battle", 0, x::bars);
    }

    private static void wordAt() {
        CypherRing x = Ring.inBattle(4, 1, 2);
        Ring.bar(x, 3, 1);
        Ring.bar(x, 2);
        x.say(0, 0);
        Check.due("28 first of 0", 3, () -> x.wordAt(0, 0));
        Check.due("28 second of 0", 1, () -> x.wordAt(0, 1));
        Check.due("28 first of 1", 2, () -> x.wordAt(1, 0));
        Check.dueThrow(x, "28 behind the last of 0", NONE, () -> x.wordAt(0, 2));
        Check.dueThrow(x, "28 behind the last of 1", NONE, () -> x.wordAt(1, 1));
        Check.dueThrow(x, "28 ahead of the first", NONE, () -> x.wordAt(1, -1));
        Check.dueThrow(x, "28 greatest index", NONE, () -> x.wordAt(1, Integer.MAX_VALUE));
        Check.dueThrow(x, "28 the open bar", INDEX, () -> x.wordAt(2, 0));
        Check.dueThrow(x, "28 bar -1", INDEX, () -> x.wordAt(-1, 0));
        Check.dueThrow(x, "28 bar ahead of index", INDEX, () -> x.wordAt(2, -1));
    }

    private static void landings() {
        CypherRing x = Ring.withWords(1);
        Ring.performers(x, 0, 0);
        x.challenge(0, 1, 0);
        x.begin(3, 4);
        int[] landing = {0, 10, 90, 100, 110, 190, 200, 210, 290, 310};
        int[] missing = {11, 50, 89, 111, 189, 211, 289, 311, 375};
        for (int i = 0; i < landing.length + missing.length; i++) {
            boolean lands = i < landing.length;
            int at = lands ? landing[i] : missing[i - landing.length];
            x.say(0, at);
            int bar = x.closeBar();
            Check.due("29 at " + at, lands ? 1 : 0, () -> x.landings(bar));
        }
        Check.dueThrow(x, "29 no such bar", INDEX, () -> x.landings(19));
        Check.dueThrow(x, "29 bar -1", INDEX, () -> x.landings(-1));
    }

    private static void landingsByThePocketAsItWas() {
        CypherRing x = new CypherRing();
        Ring.word(x, 1231, 1231, 1230);
        Ring.word(x, 1230, 1230, 1230, 1231);
        Ring.performers(x, 0, 0);
        x.setBeat(90, 25);
        x.challenge(0, 1, 0);
        x.begin(1, 2);
        x.say(0, 75);
        x.say(1, 300);
        x.closeBar();
        x.say(0, 74);
        x.say(1, 299);
        x.closeBar();
        Check.due("29 by the last stressed syllable, and the bar's end", 2, () -> x.landings(0));
        Check.due("29 outside of the pocket at the end", 1, () -> x.landings(1));
        x.choke();
        x.decide(0);
        x.setBeat(90, 0);
        Check.due("29 by the pocket as it was", 2, () -> x.landings(0));
        x.challenge(0, 1, 0);
        x.begin(1, 2);
        x.say(0, 75);
        x.say(1, 300);
        x.closeBar();
        Check.due("29 by an empty pocket", 1, () -> x.landings(0));
    }

    private static void answers() {
        CypherRing x = Ring.inBattle(6, 2, 2);
        Ring.bar(x, 0, 1, 1);
        Ring.bar(x, 0, 2);
        Ring.bar(x, 1, 1, 3, 2, 1);
        Ring.bar(x, 4, 3);
        Ring.bar(x, 0, 3, 4, 4, 3);
        x.say(5, 0);
        x.choke();
        Ring.bar(x, 4);
        Ring.bar(x, 0, 1, 2, 3, 4, 5);
        int[] want = {0, 0, 2, 0, 2, 1, 5};
        for (int i = 0; i < want.length; i++) {
            int bar = i;
            Check.due("30 of bar " + bar, want[i], () -> x.answers(bar));
        }
        Check.dueThrow(x, "30 no such bar", INDEX, () -> x.answers(7));
        Check.dueThrow(x, "30 bar -1", INDEX, () -> x.answers(-1));
    }

    private static void chain() {
        CypherRing x = new CypherRing();
        Ring.word(x, 1111, 2220);
        Ring.word(x, 3331);
        Ring.word(x, 9121, 8230, 7341);
        Ring.word(x, 5431);
        Ring.performers(x, 0, 0);
        x.challenge(0, 1, 0);
        x.begin(1, 4);
        x.say(3, 0);
        x.say(0, 100);
        x.say(1, 300);
        x.closeBar();
        x.say(0, 0);
        x.say(2, 200);
        x.closeBar();
        x.say(2, 0);
        x.closeBar();
        x.say(2, 0);
        x.say(3, 100);
        x.closeBar();
        Check.due("31 over words", 3, () -> x.chain(0, 1, 0));
        Check.due("31 the other way", 3, () -> x.chain(1, 0, 0));
        Check.due("31 up to the shorter one's begin", 3, () -> x.chain(1, 2, 0));
        Check.due("31 the same", 4, () -> x.chain(0, 0, 0));
        Check.due("31 unlike ends", 0, () -> x.chain(0, 3, 0));
        x.setAccent(1, 4, 3);
        Check.due("31 as they sound", 1, () -> x.chain(0, 3, 1));
        x.setAccent(2, 4, 2);
        Check.due("31 all as they sound", 4, () -> x.chain(0, 1, 2));
        Check.due("31 not in another region", 0, () -> x.chain(0, 3, 3));
    }

    private static void chainThrows() {
        CypherRing x = Ring.inBattle(1, 1, 2);
        Ring.bar(x, 0);
        Check.dueThrow(x, "31 bar 1", INDEX, () -> x.chain(1, 0, 0));
        Check.dueThrow(x, "31 bar -1", INDEX, () -> x.chain(-1, 0, 0));
        Check.dueThrow(x, "31 other 1", INDEX, () -> x.chain(0, 1, 0));
        Check.dueThrow(x, "31 other -1", INDEX, () -> x.chain(0, -1, 0));
        Check.dueThrow(x, "31 region 4", RANGE, () -> x.chain(0, 0, 4));
        Check.dueThrow(x, "31 region -1", RANGE, () -> x.chain(0, 0, -1));
        Check.dueThrow(x, "31 bar ahead of region", INDEX, () -> x.chain(0, 1, 4));
    }

    private static void wasHeard() {
        CypherRing x = new CypherRing();
        Ring.word(x, 1111, 2220);
        Ring.word(x, 1111);
        Ring.word(x, 2221);
        Ring.word(x, 1141);
        Ring.word(x, 1411);
        Ring.word(x, 4111);
        Ring.performers(x, 0, 0);
        x.challenge(0, 1, 0);
        x.begin(1, 4);
        Ring.bar(x, 0);
        Ring.bar(x, 0);
        Check.due("32 not of this battle", false, () -> x.wasHeard(1));
        x.say(3, 0);
        x.choke();
        x.choke();
        x.decide(0);
        x.setAccent(0, 4, 1);
        x.challenge(0, 1, 0);
        x.begin(1, 4);
        x.say(1, 10);
        x.say(2, 99);
        x.closeBar();
        Check.due("32 the same sounds by other words", true, () -> x.wasHeard(0));
        Ring.bar(x, 1);
        Check.due("32 its begin alone", false, () -> x.wasHeard(1));
        Ring.bar(x, 2, 1);
        Check.due("32 in another order", false, () -> x.wasHeard(2));
        Ring.bar(x, 3);
        Check.due("32 an open bar was not heard", false, () -> x.wasHeard(3));
        x.say(0, 0);
        x.say(2, 50);
        x.closeBar();
        Check.due("32 more than that", false, () -> x.wasHeard(4));
        x.choke();
        x.decide(0);
        x.challenge(0, 1, 0);
        x.begin(1, 4);
        Ring.bar(x, 0);
        Check.due("32 of a battle far ahead", true, () -> x.wasHeard(0));
        Ring.bar(x, 1);
        Check.due("32 of the battle before", true, () -> x.wasHeard(1));
        Ring.bar(x, 4);
        Check.due("32 without accents", false, () -> x.wasHeard(2));
        Ring.bar(x, 5);
        Check.due("32 onsets matter", false, () -> x.wasHeard(3));
        Check.due("32 a bar told before stays", true, () -> x.wasHeard(0));
        Check.dueThrow(x, "32 no such bar", INDEX, () -> x.wasHeard(4));
        Check.dueThrow(x, "32 bar -1", INDEX, () -> x.wasHeard(-1));
    }

    private static void languages() {
        CypherRing x = new CypherRing();
        for (int i = 0; i < 6; i++) {
            Ring.wordOf(x, i / 2, 0, 1111);
        }
        Ring.performers(x, 0, 0);
        x.challenge(0, 1, 0);
        x.begin(1, 4);
        Ring.bar(x, 0, 1, 0);
        Ring.bar(x, 5, 0, 4);
        Ring.bar(x, 0, 2, 4, 3);
        Ring.bar(x, 4);
        Check.due("33 one", 1, () -> x.languages(0));
        Check.due("33 two", 2, () -> x.languages(1));
        Check.due("33 three", 3, () -> x.languages(2));
        Check.due("33 one again", 1, () -> x.languages(3));
        Check.dueThrow(x, "33 no such bar", INDEX, () -> x.languages(4));
        Check.dueThrow(x, "33 bar -1", INDEX, () -> x.languages(-1));
    }

    private static void firstUser() {
        CypherRing x = Ring.withWords(5);
        Ring.performers(x, 0, 0, 0);
        Check.dueThrow(x, "34 nobody", NONE, () -> x.firstUser(0));
        Check.dueThrow(x, "34 word 5", INDEX, () -> x.firstUser(5));
        Check.dueThrow(x, "34 word -1", INDEX, () -> x.firstUser(-1));
        x.challenge(2, 1, 0);
        x.begin(1, 1);
        x.say(0, 0);
        x.say(1, 25);
        Check.dueThrow(x, "34 in an open bar", NONE, () -> x.firstUser(0));
        x.closeBar();
        Check.due("34 the first side", 1, () -> x.firstUser(0));
        Ring.bar(x, 0, 2);
        Check.due("34 still the first one", 1, () -> x.firstUser(0));
        Check.due("34 the second side", 2, () -> x.firstUser(2));
        x.decide(0);
        x.challenge(0, 2, 0);
        x.begin(1, 1);
        Ring.bar(x, 1, 2, 3);
        Check.due("34 over all battles", 1, () -> x.firstUser(1));
        Check.due("34 over all battles, of the second side", 2, () -> x.firstUser(2));
        Check.due("34 a new one", 0, () -> x.firstUser(3));
        Ring.bar(x, 3);
        Check.due("34 still performer 0", 0, () -> x.firstUser(3));
        Check.dueThrow(x, "34 nobody yet", NONE, () -> x.firstUser(4));
    }

    private static void read() {
        CypherRing x = Ring.inBattle(4, 1, 2);
        Check.dueThrow(x, "35 nothing yet", NONE, x::read);
        x.say(3, 0);
        Check.dueThrow(x, "35 an open bar", NONE, x::read);
        x.say(1, 50);
        x.closeBar();
        Check.due("35 first", 3, x::read);
        Ring.bar(x, 0);
        Check.due("35 second", 1, x::read);
        Check.due("35 of the next bar", 0, x::read);
        Check.dueThrow(x, "35 none by now", NONE, x::read);
        x.say(2, 0);
        Check.dueThrow(x, "35 still none", NONE, x::read);
        x.closeBar();
        Check.due("35 goes on", 2, x::read);
        Ring.bar(x, 1);
        x.decide(0);
        Check.due("35 goes on behind the decision", 1, x::read);
        Check.dueThrow(x, "35 no more", NONE, x::read);
        x.challenge(0, 1, 0);
        Check.dueThrow(x, "35 no more while a challenge waits", NONE, x::read);
        x.begin(1, 1);
        Check.dueThrow(x, "35 begins anew", NONE, x::read);
        Ring.bar(x, 2, 3);
        Check.due("35 anew", 2, x::read);
        Ring.bar(x, 1);
        x.decide(0);
        x.challenge(0, 1, 0);
        x.begin(1, 1);
        Ring.bar(x, 0);
        Check.due("35 not what was left of the battle before", 0, x::read);
        Check.dueThrow(x, "35 that was all", NONE, x::read);
    }

    private static void theLongestBattle() {
        CypherRing x = Ring.inBattle(24, 3, 4);
        int[] words = new int[16];
        for (int bar = 0; bar < 24; bar++) {
            for (int i = 0; i < 16; i++) {
                words[i] = (bar + i) % 24;
            }
            int number = bar;
            Check.due("24 bar " + bar, number, () -> Ring.bar(x, words));
        }
        Check.due("27 all bars", 24, x::bars);
        Check.due("28 the last word", (23 + 15) % 24, () -> x.wordAt(23, 15));
        for (int i = 0; i < 24 * 16; i++) {
            int word = (i / 16 + i % 16) % 24;
            Check.due("35 word " + i, word, x::read);
        }
        Check.dueThrow("35 behind the last one", NONE, x::read);
        Check.due("50 is sound", true, x::isSound);
    }
}
