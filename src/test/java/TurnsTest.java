import java.util.NoSuchElementException;

/** Promises 19 to 26: turns, and words said in them. */
public final class TurnsTest {
    private static final Class<?> RANGE = IllegalArgumentException.class;
    private static final Class<?> STATE = IllegalStateException.class;
    private static final Class<?> INDEX = IndexOutOfBoundsException.class;
    private static final Class<?> NOT_NOW = UnsupportedOperationException.class;
    private static final Class<?> NONE = NoSuchElementException.class;

    public static void main(String[] args) {
        isOn();
        barTopicAll();
        barTopicWithoutABattle();
        barTopicBehindATurn();
        barTopicAheadOfAllWords();
        barTopicOfOtherWords();
        sideAndRound();
        sayUpToTheEndOfTheBar();
        sayBehindTheOneBefore();
        sayFromTheBeginOfABar();
        sayAsManyAsABarTakes();
        sayThrows();
        sayOfABarredTopic();
        sayOfABarredTopicInTheLastTurn();
        closeBar();
        closeBarBehindLostWords();
        choke();
        chokeEndsTheTurn();
        restart();
        restartOfAFullBarAndOfNone();
        restartWhileTheFirstBarIsOpen();
        restartOnceForEachSide();
        Check.end();
    }

    private static void isOn() {
        Tape x = Ring.withWords(1);
        Ring.performers(x, 0, 0);
        Check.due("19 none", false, x::isOn);
        x.challenge(0, 1, 0);
        Check.due("19 a challenge", false, x::isOn);
        x.begin(1, 1);
        Check.due("19 began", true, x::isOn);
        x.choke();
        x.choke();
        Check.due("19 waits", true, x::isOn);
        x.decide(0);
        Check.due("19 decided", false, x::isOn);
    }

    private static void barTopicAll() {
        Tape x = Ring.inBattle(1, 1, 1);
        barTopicOutOfRange(x, "ahead of all");
        for (int i = 0; i < 10; i++) {
            int topic = 9 - i;
            Check.due("20 topic " + topic, i + 1, () -> x.barTopic(topic));
            Check.dueThrow(x, "20 barred is topic " + topic, NOT_NOW, () -> x.barTopic(topic));
        }
        Check.dueThrow(x, "20 all are barred", NOT_NOW, () -> x.barTopic(9));
        barTopicOutOfRange(x, "with all barred");
        Check.due("23 a word of any topic ends the turn", -1, () -> x.say(0, 0));
    }

    private static void barTopicOutOfRange(Tape x, String when) {
        Check.dueThrowBeyond(x, "20 " + when + ", topic", RANGE, 0, 9, x::barTopic);
    }

    private static void barTopicWithoutABattle() {
        Tape x = Ring.withWords(1);
        Ring.performers(x, 0, 0);
        Check.dueThrow(x, "20 no battle", STATE, () -> x.barTopic(0));
        barTopicOutOfRange(x, "without a battle");
        x.challenge(0, 1, 0);
        Check.dueThrow(x, "20 no battle yet", STATE, () -> x.barTopic(9));
        x.begin(1, 1);
        Check.due("20 a battle", 1, () -> x.barTopic(9));
        Ring.chokeAll(x);
        x.decide(0);
        Check.dueThrow(x, "20 decided", STATE, () -> x.barTopic(0));
        Check.dueThrow(x, "20 decided, of what was barred", STATE, () -> x.barTopic(9));
        barTopicOutOfRange(x, "behind the decision");
    }

    private static void barTopicBehindATurn() {
        Tape x = Ring.inBattle(1, 1, 1);
        x.choke();
        Check.dueThrow(x, "20 a turn ended", NOT_NOW, () -> x.barTopic(0));
        barTopicOutOfRange(x, "behind a turn");
        x.choke();
        Check.dueThrow(x, "20 all turns ended", NOT_NOW, () -> x.barTopic(0));
        barTopicOutOfRange(x, "behind all turns");
        Tape y = Ring.inBattle(1, 1, 2);
        y.barTopic(0);
        y.say(0, 0);
        Check.dueThrow(y, "20 a turn ended by a barred word", NOT_NOW, () -> y.barTopic(4));
        y.restart();
        Check.dueThrow(y, "20 begun anew behind a turn", NOT_NOW, () -> y.barTopic(4));
    }

    private static void barTopicAheadOfAllWords() {
        Tape x = Ring.inBattle(2, 2, 2);
        Check.due("20 ahead of all words", 1, () -> x.barTopic(1));
        x.say(0, 0);
        Check.dueThrow(x, "20 a word was said", NOT_NOW, () -> x.barTopic(2));
        barTopicOutOfRange(x, "behind a word");
        x.restart();
        Check.due("20 begun anew", 2, () -> x.barTopic(2));
        Check.dueThrow(x, "20 a wrong word is not said", NOT_NOW, () -> x.say(0, 399));
        Check.due("20 behind a wrong word", 3, () -> x.barTopic(3));
        Ring.bar(x, 0);
        Check.dueThrow(x, "20 a bar is closed", NOT_NOW, () -> x.barTopic(4));
    }

    private static void barTopicOfOtherWords() {
        Tape x = new Tape();
        for (int topic = 0; topic < 10; topic++) {
            Ring.wordOf(x, 0, topic, 1111);
        }
        Ring.performers(x, 0, 0);
        x.challenge(0, 1, 0);
        x.begin(1, 2);
        x.barTopic(0);
        x.barTopic(9);
        Check.due("20 the topic behind a barred one", 1, () -> x.say(1, 0));
        Check.due("20 the topic ahead of a barred one", 2, () -> x.say(8, 25));
        Check.due("20 the first topic", -1, () -> x.say(0, 50));
        Check.due("20 the last topic", -1, () -> x.say(9, 0));
    }

    private static void sideAndRound() {
        Tape x = Ring.withWords(2);
        Ring.performers(x, 0, 0);
        Check.dueThrow(x, "21 no battle", STATE, x::side);
        Check.dueThrow(x, "22 no battle", STATE, x::round);
        x.challenge(0, 1, 0);
        x.begin(3, 2);
        for (int round = 0; round < 3; round++) {
            for (int side = 0; side < 2; side++) {
                Check.due("21 side", side, x::side);
                Check.due("22 round", round, x::round);
                Ring.bar(x, 0);
                Check.due("21 side, one bar closed", side, x::side);
                Check.due("22 round, one bar closed", round, x::round);
                Ring.bar(x, 1);
            }
        }
        Check.dueThrow(x, "21 it waits", STATE, x::side);
        Check.dueThrow(x, "22 it waits", STATE, x::round);
        x.decide(0);
        Check.dueThrow(x, "21 decided", STATE, x::side);
        Check.dueThrow(x, "22 decided", STATE, x::round);
    }

    /** Words of one to four syllables, two performers, 1 being first, and a battle of four bars for a turn. */
    private static Tape withWordsOfAllLengths() {
        Tape x = new Tape();
        Ring.word(x, 1231);
        Ring.word(x, 1231, 1230);
        Ring.word(x, 1230, 1231, 1230);
        Ring.word(x, 1231, 1230, 1230, 1231);
        Ring.performers(x, 0, 0);
        x.challenge(0, 1, 0);
        x.begin(2, 4);
        return x;
    }

    private static void sayUpToTheEndOfTheBar() {
        Tape x = withWordsOfAllLengths();
        for (int word = 0; word < 4; word++) {
            int said = word;
            int last = 400 - 25 * (word + 1);
            String what = "23 " + (word + 1) + " syllables, ";
            Check.dueThrow(x, what + "end at 401", NOT_NOW, () -> x.say(said, last + 1));
            Check.dueThrow(x, what + "at the last place", NOT_NOW, () -> x.say(said, 399));
            Check.due(what + "end at 400", 1, () -> x.say(said, last));
            Check.dueThrow(x, what + "nothing behind", NOT_NOW, () -> x.say(0, 399));
            Check.due("24 of a full bar", said, x::closeBar);
        }
    }

    private static void sayBehindTheOneBefore() {
        Tape x = withWordsOfAllLengths();
        for (int word = 0; word < 4; word++) {
            int said = word;
            int end = 25 * (word + 1);
            String what = "23 behind " + (word + 1) + " syllables, ";
            Check.due(what + "the first place", 1, () -> x.say(said, 0));
            Check.dueThrow(x, what + "the same place", NOT_NOW, () -> x.say(0, 0));
            Check.dueThrow(x, what + "ahead of its end", NOT_NOW, () -> x.say(0, end - 1));
            Check.due(what + "at its end", 2, () -> x.say(0, end));
            Check.dueThrow(x, what + "ahead of the last one's end", NOT_NOW, () -> x.say(said, end + 24));
            Check.due(what + "behind a gap", 3, () -> x.say(said, end + 26));
            x.closeBar();
        }
    }

    private static void sayFromTheBeginOfABar() {
        Tape x = withWordsOfAllLengths();
        x.say(0, 375);
        x.closeBar();
        Check.due("23 a new bar", 1, () -> x.say(0, 0));
        x.say(0, 375);
        x.choke();
        Check.due("23 a new turn", 1, () -> x.say(0, 0));
        x.say(0, 375);
        x.restart();
        Check.due("23 begun anew", 1, () -> x.say(0, 0));
    }

    private static void sayAsManyAsABarTakes() {
        Tape x = Ring.inBattle(1, 1, 1);
        for (int i = 0; i < 16; i++) {
            int at = 25 * i;
            Check.due("23 at " + at, i + 1, () -> x.say(0, at));
        }
        Check.dueThrow(x, "23 a 17th", NOT_NOW, () -> x.say(0, 375));
        Check.dueThrow(x, "23 a 17th at the last place", NOT_NOW, () -> x.say(0, 399));
        Check.due("24 sixteen words", 0, x::closeBar);
        Check.due("28 the 16th", 0, () -> x.wordAt(0, 15));
    }

    private static void sayThrows() {
        Tape x = new Tape();
        Check.dueThrow(x, "23 no words", INDEX, () -> x.say(0, 400));
        Ring.word(x, 1111);
        Ring.word(x, 2111);
        Ring.performers(x, 0, 0);
        sayWithoutATurn(x, "without a battle");
        x.challenge(0, 1, 0);
        sayWithoutATurn(x, "ahead of the battle");
        x.begin(1, 1);
        sayOutOfRange(x, "in the first turn");
        Check.due("23 the last word, the last place", 1, () -> x.say(1, 375));
        sayOutOfRange(x, "behind a word");
        x.choke();
        Check.due("23 the first word, the first place", 1, () -> x.say(0, 0));
        x.choke();
        sayWithoutATurn(x, "behind all turns");
        x.decide(0);
        sayWithoutATurn(x, "behind the decision");
    }

    private static void sayOutOfRange(Tape x, String when) {
        for (int at : new int[] {0, 399, 400}) {
            Check.dueThrowBeyond(x, "23 " + when + ", at " + at + ", word", INDEX, 0, 1, n -> x.say(n, at));
        }
        Check.dueThrowBeyond(x, "23 " + when + ", at", RANGE, 0, 399, n -> x.say(0, n));
    }

    private static void sayWithoutATurn(Tape x, String when) {
        Check.dueThrow(x, "23 " + when, STATE, () -> x.say(0, 0));
        Check.dueThrow(x, "23 " + when + ", at a place without room", STATE, () -> x.say(0, 399));
        sayOutOfRange(x, when);
    }

    private static void sayOfABarredTopic() {
        Tape x = Ring.inBattle(2, 2, 2);
        int barred = Ring.wordOf(x, 0, 7, 9791);
        x.barTopic(7);
        Ring.bar(x, 0);
        x.say(1, 100);
        Check.dueThrow(x, "23 a wrong place ahead of the topic", NOT_NOW, () -> x.say(barred, 124));
        Check.dueThrow(x, "23 a wrong end ahead of the topic", NOT_NOW, () -> x.say(barred, 376));
        Check.due("23 a barred one ends the turn", -1, () -> x.say(barred, 125));
        Check.due("23 the other side's turn", 1, x::side);
        Check.due("23 the open bar is lost", 1, x::bars);
        Check.due("23 the next bar is empty", 1, () -> x.say(0, 0));
        Check.due("23 the next bar's number", 1, x::closeBar);
        Check.dueThrow(x, "23 the barred one is not said", NONE, () -> x.firstUser(barred));
        Check.dueThrow(x, "23 the lost one is not said in a closed bar", NONE, () -> x.firstUser(1));
        Check.due("23 ends the next turn, too", -1, () -> x.say(barred, 0));
        Check.due("23 round 1", 1, x::round);
        x.say(barred, 0);
        x.say(barred, 0);
        Check.due("23 it waits", true, x::isOn);
        Check.dueThrow(x, "23 nobody has the turn", STATE, x::side);
    }

    /** A barred word in a bar behind another one; what was closed stays. */
    private static void sayOfABarredTopicInTheLastTurn() {
        Tape x = Ring.inBattle(2, 1, 3);
        int barred = Ring.wordOf(x, 0, 7, 9791);
        x.barTopic(7);
        x.choke();
        Ring.bar(x, 0, 1);
        Ring.bar(x, 1);
        x.say(0, 0);
        x.say(1, 25);
        Check.due("23 the last turn ends", -1, () -> x.say(barred, 50));
        Check.dueThrow(x, "23 nobody has the turn", STATE, () -> x.say(barred, 75));
        Check.due("27 closed bars stay", 2, x::bars);
        Check.due("28 with their words", 1, () -> x.wordAt(1, 0));
        Check.due("19 it waits", true, x::isOn);
        Check.due("41 it can be decided", 0, () -> x.decide(0));
    }

    private static void closeBar() {
        Tape x = Ring.withWords(2);
        Ring.performers(x, 0, 0);
        Check.dueThrow(x, "24 no battle", STATE, x::closeBar);
        x.challenge(0, 1, 0);
        Check.dueThrow(x, "24 no battle yet", STATE, x::closeBar);
        x.begin(1, 2);
        Check.dueThrow(x, "24 no words", NOT_NOW, x::closeBar);
        x.say(0, 0);
        Check.due("24 the first", 0, x::closeBar);
        Check.dueThrow(x, "24 no words in the next", NOT_NOW, x::closeBar);
        x.say(1, 0);
        Check.due("24 the second", 1, x::closeBar);
        Check.due("24 the turn ends behind its bars", 1, x::side);
        Check.dueThrow(x, "24 no words in the next turn", NOT_NOW, x::closeBar);
        x.say(1, 0);
        x.restart();
        Check.dueThrow(x, "24 words that are gone", NOT_NOW, x::closeBar);
        x.say(1, 0);
        Check.due("24 the third", 2, x::closeBar);
        x.say(1, 0);
        Check.due("24 the fourth", 3, x::closeBar);
        Check.dueThrow(x, "24 it waits", STATE, x::closeBar);
        x.decide(0);
        Check.dueThrow(x, "24 decided", STATE, x::closeBar);
    }

    private static void closeBarBehindLostWords() {
        Tape x = Ring.inBattle(1, 2, 2);
        int barred = Ring.wordOf(x, 0, 7, 9791);
        x.barTopic(7);
        x.say(0, 0);
        x.choke();
        Check.dueThrow(x, "24 words lost by choking", NOT_NOW, x::closeBar);
        x.say(0, 0);
        x.say(barred, 25);
        Check.dueThrow(x, "24 words lost by a barred one", NOT_NOW, x::closeBar);
        x.say(0, 0);
        Check.due("24 the first one that is closed", 0, x::closeBar);
    }

    private static void choke() {
        Tape x = Ring.withWords(2);
        Ring.performers(x, 0, 0);
        Check.dueThrow(x, "25 no battle", STATE, x::choke);
        x.challenge(0, 1, 0);
        Check.dueThrow(x, "25 no battle yet", STATE, x::choke);
        x.begin(2, 4);
        for (int i = 0; i < 4; i++) {
            int bars = i;
            for (int bar = 0; bar < bars; bar++) {
                Ring.bar(x, 0);
            }
            x.say(1, 0);
            Check.due("25 bars of the turn", bars, x::choke);
        }
        Check.due("25 the words of the open bars are lost", 1 + 2 + 3, x::bars);
        Check.dueThrow(x, "25 lost words have no user", NONE, () -> x.firstUser(1));
        Check.dueThrow(x, "25 it waits", STATE, x::choke);
        x.decide(0);
        Check.dueThrow(x, "25 decided", STATE, x::choke);
    }

    private static void chokeEndsTheTurn() {
        Tape x = Ring.inBattle(1, 3, 2);
        for (int turn = 0; turn < 6; turn++) {
            int number = turn;
            Check.due("25 turn " + turn + ", side", number % 2, x::side);
            Check.due("25 turn " + turn + ", round", number / 2, x::round);
            Check.due("25 without words", 0, x::choke);
        }
        Check.dueThrow(x, "25 behind the last turn", STATE, x::side);
        Check.due("25 it waits", true, x::isOn);
    }

    private static void restart() {
        Tape x = Ring.withWords(3);
        Ring.performers(x, 0, 0);
        Check.dueThrow(x, "26 no battle", STATE, x::restart);
        x.challenge(0, 1, 0);
        Check.dueThrow(x, "26 no battle yet", STATE, x::restart);
        x.begin(1, 2);
        x.say(0, 0);
        x.say(1, 25);
        x.say(2, 50);
        Check.due("26 three words are gone", 3, x::restart);
        Check.dueThrow(x, "26 once in a battle", NOT_NOW, x::restart);
        x.say(1, 0);
        Check.dueThrow(x, "26 once, whatever was said", NOT_NOW, x::restart);
        Check.due("26 the bar goes on", 2, () -> x.say(1, 25));
        x.closeBar();
        Check.dueThrow(x, "26 this side did, and a bar is closed", NOT_NOW, x::restart);
        Check.due("26 only the new words", 2, () -> x.wordAt(0, 0) + x.wordAt(0, 1));
        Check.dueThrow(x, "26 only two words", NONE, () -> x.wordAt(0, 2));
        Check.dueThrow(x, "26 words that are gone have no user", NONE, () -> x.firstUser(0));
        x.choke();
        x.choke();
        Check.dueThrow(x, "26 it waits", STATE, x::restart);
        x.decide(0);
        Check.dueThrow(x, "26 decided", STATE, x::restart);
    }

    private static void restartOfAFullBarAndOfNone() {
        Tape x = Ring.inBattle(1, 1, 1);
        for (int i = 0; i < 16; i++) {
            x.say(0, 25 * i);
        }
        Check.due("26 sixteen words", 16, x::restart);
        x.choke();
        Check.due("26 no words", 0, x::restart);
        Check.dueThrow(x, "26 used up by that", NOT_NOW, x::restart);
    }

    private static void restartWhileTheFirstBarIsOpen() {
        Tape x = Ring.inBattle(2, 2, 2);
        Ring.bar(x, 0);
        Check.dueThrow(x, "26 a bar is closed, none is open", NOT_NOW, x::restart);
        x.say(1, 0);
        Check.dueThrow(x, "26 a bar is closed, one is open", NOT_NOW, x::restart);
        x.choke();
        x.say(1, 0);
        Check.due("26 the first bar of the second turn", 1, x::restart);
        x.choke();
        x.say(1, 0);
        Check.due("26 the first bar of a turn in a later round", 1, x::restart);
    }

    private static void restartOnceForEachSide() {
        Tape x = Ring.inBattle(1, 3, 1);
        x.choke();
        x.choke();
        Check.due("26 the first side in a later round", 0, x::restart);
        x.choke();
        x.choke();
        Check.dueThrow(x, "26 not in the last round again", NOT_NOW, x::restart);
        x.choke();
        Check.due("26 the second side in the last round", 0, x::restart);
        Check.dueThrow(x, "26 once", NOT_NOW, x::restart);
        x.choke();
        x.decide(0);
        x.challenge(0, 1, 0);
        x.begin(1, 1);
        Check.due("26 once more in the next battle", 0, x::restart);
        x.choke();
        Check.due("26 the second side in the next battle", 0, x::restart);
    }
}
