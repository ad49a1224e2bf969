import java.util.NoSuchElementException;

/** Promises 27 to 35: what is told of bars, and reading. */
public final class BarsTest {
    private static final Class<?> RANGE = IllegalArgumentException.class;
    private static final Class<?> INDEX = IndexOutOfBoundsException.class;
    private static final Class<?> NONE = NoSuchElementException.class;

    public static void main(String[] args) {
        bars();
        barsThatThereAreNot();
        barsOfTheLongestBattle();
        wordAt();
        landings();
        landingsOfTheLastStressed();
        landingsByThePocketAsItWas();
        answers();
        answersWithAllWords();
        answersNotToLostWords();
        chain();
        chainAtTheEdges();
        chainOfSoundsAtTheEnds();
        chainThrows();
        wasHeard();
        wasHeardWithEachSound();
        wasHeardOfSoundsAtTheEnds();
        wasHeardOfLostWords();
        languages();
        firstUser();
        firstUserOfTheFirstAndTheLast();
        firstUserOfLostWords();
        read();
        readAll();
        Check.end();
    }

    private static void bars() {
        Tape x = Ring.withWords(1);
        Ring.performers(x, 0, 0);
        Check.due("27 no battle", 0, x::bars);
        x.challenge(0, 1, 0);
        x.begin(1, 2);
        x.say(0, 0);
        Check.due("27 an open bar", 0, x::bars);
        x.closeBar();
        Check.due("27 a closed bar", 1, x::bars);
        x.choke();
        Ring.bar(x, 0);
        Ring.bar(x, 0);
        Check.due("27 of both sides", 3, x::bars);
        x.decide(0);
        Check.due("27 decided", 3, x::bars);
        x.challenge(0, 1, 0);
        Check.due("27 challenged", 3, x::bars);
        x.begin(1, 1);
        Check.due("27 a new battle", 0, x::bars);
    }

    /** All that is told of bars, with bars that there are not. */
    private static void noSuchBar(Tape x, int bars, String when) {
        int last = bars - 1;
        Check.dueThrowBeyond(x, "28 " + when + ", bar", INDEX, 0, last, n -> x.wordAt(n, 0));
        Check.dueThrowBeyond(x, "28 ahead of the index, " + when + ", bar", INDEX, 0, last, n -> x.wordAt(n, -1));
        Check.dueThrowBeyond(x, "29 " + when + ", bar", INDEX, 0, last, x::landings);
        Check.dueThrowBeyond(x, "30 " + when + ", bar", INDEX, 0, last, x::answers);
        Check.dueThrowBeyond(x, "32 " + when + ", bar", INDEX, 0, last, x::wasHeard);
        Check.dueThrowBeyond(x, "33 " + when + ", bar", INDEX, 0, last, x::languages);
        for (int region : new int[] {0, 4}) {
            String what = "31 " + when + ", region " + region;
            Check.dueThrowBeyond(x, what + ", bar", INDEX, 0, last, n -> x.chain(n, 0, region));
            Check.dueThrowBeyond(x, what + ", other", INDEX, 0, last, n -> x.chain(0, n, region));
        }
    }

    private static void barsThatThereAreNot() {
        noSuchBar(new Tape(), 0, "a new object");
        Tape x = Ring.inBattle(2, 1, 2);
        noSuchBar(x, 0, "a battle that began");
        x.say(0, 0);
        noSuchBar(x, 0, "an open bar");
        x.closeBar();
        noSuchBar(x, 1, "a closed bar");
        x.say(1, 0);
        noSuchBar(x, 1, "a bar open behind a closed one");
        Tape y = Ring.inBattle(2, 1, 2);
        Ring.bar(y, 0);
        y.choke();
        Ring.bar(y, 1);
        y.choke();
        noSuchBar(y, 2, "a battle that waits");
        y.decide(0);
        y.challenge(0, 1, 0);
        noSuchBar(y, 2, "a challenge that waits");
        y.begin(1, 1);
        noSuchBar(y, 0, "the next battle");
    }

    /** As many bars as there can be, of as many words. */
    private static void barsOfTheLongestBattle() {
        Tape x = Ring.inBattle(2, 3, 4);
        int[] words = new int[16];
        for (int bar = 0; bar < 24; bar++) {
            for (int i = 0; i < 16; i++) {
                words[i] = (bar + i / 15) % 2;
            }
            int number = bar;
            Check.due("24 bar " + bar, number, () -> Ring.bar(x, words));
        }
        Check.due("27 all bars", 24, x::bars);
        Check.due("28 the first word of the first bar", 0, () -> x.wordAt(0, 0));
        Check.due("28 the last word of the first bar", 1, () -> x.wordAt(0, 15));
        Check.due("28 the last word of the last bar", 0, () -> x.wordAt(23, 15));
        Check.due("28 the one ahead of it", 1, () -> x.wordAt(23, 14));
        Check.due("29 of the last bar", 4, () -> x.landings(23));
        Check.due("30 of the last bar", 2, () -> x.answers(23));
        Check.due("31 of the first and the last bar", 0, () -> x.chain(0, 23, 0));
        Check.due("31 of the last bar, all of it", 16, () -> x.chain(23, 23, 3));
        Check.due("32 of the last bar", false, () -> x.wasHeard(23));
        Check.due("33 of the last bar", 1, () -> x.languages(23));
        Check.due("35 the first word", 0, x::read);
        Check.due("50 is sound", true, x::isSound);
        Check.dueThrow(x, "28 bar 24", INDEX, () -> x.wordAt(24, 0));
        Check.dueThrow(x, "28 index 16", NONE, () -> x.wordAt(23, 16));
        Check.dueThrow(x, "29 bar 24", INDEX, () -> x.landings(24));
    }

    private static void wordAt() {
        Tape x = Ring.inBattle(4, 1, 2);
        Ring.bar(x, 3, 1);
        Ring.bar(x, 2);
        x.say(0, 0);
        Check.due("28 first of 0", 3, () -> x.wordAt(0, 0));
        Check.due("28 second of 0", 1, () -> x.wordAt(0, 1));
        Check.due("28 first of 1", 2, () -> x.wordAt(1, 0));
        Check.dueThrowBeyond(x, "28 two words, index", NONE, 0, 1, n -> x.wordAt(0, n));
        Check.dueThrowBeyond(x, "28 one word, index", NONE, 0, 0, n -> x.wordAt(1, n));
        Check.dueThrow(x, "28 the open bar, as yet not numbered", INDEX, () -> x.wordAt(2, 0));
    }

    /** Words of one syllable at places just within the pocket of a beat, and just out of it. */
    private static void landings() {
        landingsOf(10, new int[] {0, 10, 90, 100, 110, 190, 200, 210, 290, 300, 310},
                new int[] {11, 50, 89, 111, 189, 211, 289, 311, 350, 374, 375});
        landingsOf(0, new int[] {0, 100, 200, 300}, new int[] {1, 99, 101, 199, 201, 299, 301, 350, 375});
        landingsOf(49, new int[] {49, 51, 149, 151, 249, 251, 349, 351, 375}, new int[] {50, 150, 250, 350});
        landingsOf(24, new int[] {0, 24, 76, 324}, new int[] {25, 75, 325, 375});
        landingsOf(25, new int[] {25, 75, 325, 375}, new int[] {26, 74, 326, 374});
    }

    private static void landingsOf(int pocket, int[] landing, int[] missing) {
        Tape x = Ring.withWords(1);
        Ring.performers(x, 0, 0);
        if (pocket != 10) {
            x.setBeat(90, pocket);
        }
        x.challenge(0, 1, 0);
        x.begin(3, 4);
        for (int i = 0; i < landing.length + missing.length; i++) {
            boolean lands = i < landing.length;
            int at = lands ? landing[i] : missing[i - landing.length];
            x.say(0, at);
            int bar = x.closeBar();
            Check.due("29 pocket " + pocket + ", at " + at, lands ? 1 : 0, () -> x.landings(bar));
        }
    }

    /** The last stressed syllable of longer words, whichever that is. */
    private static void landingsOfTheLastStressed() {
        for (int stressed = 0; stressed < 4; stressed++) {
            Tape x = new Tape();
            int[] syllables = {1110, 1110, 1110, 1110};
            syllables[0]++;
            syllables[stressed] = 1111;
            Ring.word(x, syllables);
            Ring.performers(x, 0, 0);
            x.challenge(0, 1, 0);
            x.begin(1, 4);
            int place = 200 - 25 * stressed;
            int[] places = {place - 11, place - 10, place + 10, place + 11};
            for (int i = 0; i < 4; i++) {
                x.say(0, places[i]);
                int bar = x.closeBar();
                int want = i % 3 == 0 ? 0 : 1;
                Check.due("29 stressed " + stressed + ", at " + places[i], want, () -> x.landings(bar));
            }
        }
    }

    private static void landingsByThePocketAsItWas() {
        Tape x = new Tape();
        Ring.word(x, 1231, 1231, 1230);
        Ring.word(x, 1230, 1230, 1230, 1231);
        Ring.performers(x, 0, 0);
        x.setBeat(90, 25);
        x.challenge(0, 1, 0);
        x.begin(1, 2);
        x.say(0, 75);
        x.say(1, 300);
        x.closeBar();
        x.say(0, 74);
        x.say(1, 299);
        x.closeBar();
        Check.due("29 by the last stressed syllable, and the bar's end", 2, () -> x.landings(0));
        Check.due("29 outside of the pocket at the end", 1, () -> x.landings(1));
        x.choke();
        x.decide(0);
        x.setBeat(90, 0);
        Check.due("29 by the pocket as it was", 2, () -> x.landings(0));
        x.challenge(0, 1, 0);
        x.begin(1, 2);
        x.say(0, 75);
        x.say(1, 300);
        x.closeBar();
        Check.due("29 by an empty pocket", 1, () -> x.landings(0));
    }

    private static void answers() {
        Tape x = Ring.inBattle(6, 2, 2);
        Ring.bar(x, 0, 1, 1);
        Ring.bar(x, 0, 2);
        Ring.bar(x, 1, 1, 3, 2, 1);
        Ring.bar(x, 4, 3);
        Ring.bar(x, 0, 3, 4, 4, 3);
        x.say(5, 0);
        x.choke();
        Ring.bar(x, 4);
        Ring.bar(x, 0, 1, 2, 3, 4, 5);
        int[] want = {0, 0, 2, 0, 2, 1, 5};
        for (int i = 0; i < want.length; i++) {
            int bar = i;
            Check.due("30 of bar " + bar, want[i], () -> x.answers(bar));
        }
    }

    private static void answersWithAllWords() {
        Tape x = Ring.inBattle(24, 1, 2);
        int[] words = new int[16];
        for (int i = 0; i < 16; i++) {
            words[i] = 23 - i;
        }
        Ring.bar(x, words);
        Ring.bar(x, 0);
        Ring.bar(x, words);
        Ring.bar(x, 0, 23, 0, 23, 1);
        Check.due("30 nothing ahead of the first one", 0, () -> x.answers(0));
        Check.due("30 sixteen unlike words", 16, () -> x.answers(2));
        Check.due("30 the first and the last word", 2, () -> x.answers(3));
        Check.due("30 not by what came behind it", 0, () -> x.answers(1));
    }

    private static void answersNotToLostWords() {
        Tape x = withLostWords(2);
        Ring.bar(x, 2, 0, 1);
        Check.due("30 not to words lost by a barred one", 0, () -> x.answers(0));
        Ring.bar(x, 0, 1);
        Check.due("30 but to those closed behind them", 2, () -> x.answers(1));
        Tape y = withLostWords(2);
        y.choke();
        Ring.bar(y, 0, 1);
        Check.due("30 not to words gone, or lost by choking", 0, () -> y.answers(0));
    }

    /** Word 0 is gone by beginning anew, 1 is lost by choking, and 2 by 3, which is barred; that was a round. */
    private static Tape withLostWords(int rounds) {
        Tape x = Ring.inBattle(3, rounds, 1);
        int barred = Ring.wordOf(x, 0, 7, 9791);
        x.barTopic(7);
        x.say(0, 0);
        x.restart();
        x.say(1, 0);
        x.choke();
        x.say(2, 0);
        x.say(barred, 25);
        return x;
    }

    private static void chain() {
        Tape x = new Tape();
        Ring.word(x, 1111, 2220);
        Ring.word(x, 3331);
        Ring.word(x, 9121, 8230, 7341);
        Ring.word(x, 5431);
        Ring.performers(x, 0, 0);
        x.challenge(0, 1, 0);
        x.begin(1, 4);
        x.say(3, 0);
        x.say(0, 100);
        x.say(1, 300);
        x.closeBar();
        x.say(0, 0);
        x.say(2, 200);
        x.closeBar();
        x.say(2, 0);
        x.closeBar();
        x.say(2, 0);
        x.say(3, 100);
        x.closeBar();
        Check.due("31 over words", 3, () -> x.chain(0, 1, 0));
        Check.due("31 the other way", 3, () -> x.chain(1, 0, 0));
        Check.due("31 up to the shorter one's begin", 3, () -> x.chain(1, 2, 0));
        Check.due("31 the same", 4, () -> x.chain(0, 0, 0));
        Check.due("31 unlike ends", 0, () -> x.chain(0, 3, 0));
        x.setAccent(1, 4, 3);
        Check.due("31 as they sound", 1, () -> x.chain(0, 3, 1));
        x.setAccent(2, 4, 2);
        Check.due("31 all as they sound", 4, () -> x.chain(0, 1, 2));
        Check.due("31 not in another region", 0, () -> x.chain(0, 3, 3));
    }

    private static void chainAtTheEdges() {
        Tape x = new Tape();
        Ring.word(x, 1111, 2110, 3110, 4110);
        Ring.word(x, 1001);
        Ring.performers(x, 0, 0);
        x.challenge(0, 1, 0);
        x.begin(1, 4);
        for (int i = 0; i < 4; i++) {
            x.say(0, 100 * i);
        }
        x.closeBar();
        Ring.bar(x, 1);
        x.say(1, 0);
        x.say(0, 100);
        x.closeBar();
        x.say(0, 0);
        x.closeBar();
        Check.due("31 all sixteen syllables", 16, () -> x.chain(0, 0, 0));
        Check.due("31 none", 0, () -> x.chain(0, 1, 0));
        Check.due("31 one and itself", 1, () -> x.chain(1, 1, 0));
        Check.due("31 up to the unlike first one", 4, () -> x.chain(0, 2, 0));
        Check.due("31 all of the shorter one", 4, () -> x.chain(3, 0, 0));
        x.setAccent(3, 0, 1);
        Check.due("31 in the last region", 1, () -> x.chain(0, 1, 3));
        Check.due("31 in the last region, over two words", 5, () -> x.chain(0, 2, 3));
        Check.due("31 not in the one ahead of it", 0, () -> x.chain(0, 1, 2));
    }

    /** Syllables whose sounds are next to each other, were all of them counted in one row. */
    private static void chainOfSoundsAtTheEnds() {
        int[][] pairs = {{91, 1}, {91, 101}, {791, 1001}, {9791, 701}, {9701, 9001}, {9791, 1}};
        int[] chains = {1, 0, 0, 1, 0, 0};
        for (int i = 0; i < pairs.length; i++) {
            Tape x = new Tape();
            Ring.word(x, pairs[i][0]);
            Ring.word(x, pairs[i][1]);
            Ring.performers(x, 0, 0);
            x.challenge(0, 1, 0);
            x.begin(1, 2);
            Ring.bar(x, 0);
            Ring.bar(x, 1);
            Check.due("31 of pair " + i, chains[i], () -> x.chain(0, 1, 0));
            Check.due("31 of pair " + i + ", the other way", chains[i], () -> x.chain(1, 0, 3));
        }
    }

    private static void chainThrows() {
        Tape x = Ring.inBattle(1, 1, 2);
        Ring.bar(x, 0);
        Check.dueThrowBeyond(x, "31 region", RANGE, 0, 3, n -> x.chain(0, 0, n));
    }

    private static void wasHeard() {
        Tape x = new Tape();
        Ring.word(x, 1111, 2220);
        Ring.word(x, 1111);
        Ring.word(x, 2221);
        Ring.word(x, 1141);
        Ring.word(x, 1411);
        Ring.word(x, 4111);
        Ring.performers(x, 0, 0);
        x.challenge(0, 1, 0);
        x.begin(1, 4);
        Ring.bar(x, 0);
        Ring.bar(x, 0);
        Check.due("32 not of this battle", false, () -> x.wasHeard(1));
        x.say(3, 0);
        x.choke();
        x.choke();
        x.decide(0);
        x.setAccent(0, 4, 1);
        x.challenge(0, 1, 0);
        x.begin(1, 4);
        x.say(1, 10);
        x.say(2, 99);
        x.closeBar();
        Check.due("32 the same sounds by other words", true, () -> x.wasHeard(0));
        Ring.bar(x, 1);
        Check.due("32 its begin alone", false, () -> x.wasHeard(1));
        Ring.bar(x, 2, 1);
        Check.due("32 in another order", false, () -> x.wasHeard(2));
        Ring.bar(x, 3);
        Check.due("32 an open bar was not heard", false, () -> x.wasHeard(3));
        x.say(0, 0);
        x.say(2, 50);
        x.closeBar();
        Check.due("32 more than that", false, () -> x.wasHeard(4));
        x.choke();
        x.decide(0);
        x.challenge(0, 1, 0);
        x.begin(1, 4);
        Ring.bar(x, 0);
        Check.due("32 of a battle far ahead", true, () -> x.wasHeard(0));
        Ring.bar(x, 1);
        Check.due("32 of the battle before", true, () -> x.wasHeard(1));
        Ring.bar(x, 4);
        Check.due("32 without accents", false, () -> x.wasHeard(2));
        Ring.bar(x, 5);
        Check.due("32 onsets matter", false, () -> x.wasHeard(3));
        Check.due("32 a bar told before stays", true, () -> x.wasHeard(0));
    }

    /** A bar that is unlike one of the battle before in one sign alone, or like it, but with another stress. */
    private static void wasHeardWithEachSound() {
        int[][] words = {{1111, 2220}, {3111, 2220}, {1311, 2220}, {1131, 2220}, {1111, 3220}, {1111, 2320},
            {1111, 2230}, {1110, 2221}};
        for (int i = 0; i < words.length; i++) {
            Tape x = new Tape();
            Ring.word(x, words[0]);
            int other = Ring.word(x, words[i]);
            boolean isLike = i == 0 || i == 7;
            Check.due("32 of word " + i, isLike, () -> isHeardBehind(x, other, 0));
        }
    }

    private static void wasHeardOfSoundsAtTheEnds() {
        int[][] pairs = {{91, 101}, {101, 91}, {791, 1001}, {1001, 791}, {9791, 1}, {1, 9791}, {9791, 9791}, {1, 1}};
        for (int[] pair : pairs) {
            Tape x = new Tape();
            Ring.word(x, pair[0]);
            Ring.word(x, pair[1]);
            Check.due("32 " + pair[1] + " behind " + pair[0], pair[0] == pair[1], () -> isHeardBehind(x, 1, 0));
        }
    }

    /** Whether a bar of a word is heard behind a battle with a bar of another one. */
    private static boolean isHeardBehind(Tape x, int word, int before) {
        Ring.performers(x, 0, 0);
        x.challenge(0, 1, 0);
        x.begin(1, 1);
        Ring.bar(x, before);
        x.choke();
        x.decide(0);
        x.challenge(0, 1, 0);
        x.begin(1, 1);
        x.say(word, 33);
        x.closeBar();
        return x.wasHeard(0);
    }

    private static void wasHeardOfLostWords() {
        Tape x = withLostWords(1);
        x.decide(0);
        x.challenge(0, 1, 0);
        x.begin(2, 2);
        for (int word = 0; word < 3; word++) {
            int bar = Ring.bar(x, word);
            Check.due("32 lost was word " + word, false, () -> x.wasHeard(bar));
        }
    }

    private static void languages() {
        Tape x = new Tape();
        for (int i = 0; i < 6; i++) {
            Ring.wordOf(x, i / 2, 0, 1111);
        }
        Ring.performers(x, 0, 0);
        x.challenge(0, 1, 0);
        x.begin(1, 4);
        Ring.bar(x, 0, 1, 0);
        Ring.bar(x, 5, 0, 4);
        Ring.bar(x, 0, 2, 4, 3);
        Ring.bar(x, 4);
        Check.due("33 one", 1, () -> x.languages(0));
        Check.due("33 two", 2, () -> x.languages(1));
        Check.due("33 three", 3, () -> x.languages(2));
        Check.due("33 one again", 1, () -> x.languages(3));
    }

    private static void firstUser() {
        Tape x = Ring.withWords(5);
        Ring.performers(x, 0, 0, 0);
        Check.dueThrow(x, "34 nobody", NONE, () -> x.firstUser(0));
        Check.dueThrowBeyond(x, "34 word", INDEX, 0, 4, x::firstUser);
        x.challenge(2, 1, 0);
        x.begin(1, 1);
        x.say(0, 0);
        x.say(1, 25);
        Check.dueThrow(x, "34 in an open bar", NONE, () -> x.firstUser(0));
        x.closeBar();
        Check.due("34 the first side", 1, () -> x.firstUser(0));
        Ring.bar(x, 0, 2);
        Check.due("34 still the first one", 1, () -> x.firstUser(0));
        Check.due("34 the second side", 2, () -> x.firstUser(2));
        x.decide(0);
        x.challenge(0, 2, 0);
        x.begin(1, 1);
        Ring.bar(x, 1, 2, 3);
        Check.due("34 over all battles", 1, () -> x.firstUser(1));
        Check.due("34 over all battles, of the second side", 2, () -> x.firstUser(2));
        Check.due("34 a new one", 0, () -> x.firstUser(3));
        Ring.bar(x, 3);
        Check.due("34 still performer 0", 0, () -> x.firstUser(3));
        Check.dueThrow(x, "34 nobody yet", NONE, () -> x.firstUser(4));
    }

    private static void firstUserOfTheFirstAndTheLast() {
        Tape x = new Tape();
        Check.dueThrow(x, "34 no words", INDEX, () -> x.firstUser(0));
        Ring.performers(x, 0, 0, 0, 0, 0, 0, 0, 0, 0, 0);
        for (int i = 0; i < 24; i++) {
            Ring.word(x, 1111);
        }
        x.challenge(0, 9, 0);
        x.begin(1, 1);
        Ring.bar(x, 23);
        Ring.bar(x, 0, 23);
        Check.due("34 the last word, the last performer", 9, () -> x.firstUser(23));
        Check.due("34 the first word, the first performer", 0, () -> x.firstUser(0));
        Check.dueThrow(x, "34 of like sounds, but another word", NONE, () -> x.firstUser(22));
        Check.dueThrowBeyond(x, "34 of 24 words, word", INDEX, 0, 23, x::firstUser);
    }

    private static void firstUserOfLostWords() {
        Tape x = withLostWords(1);
        for (int i = 0; i < 4; i++) {
            int word = i;
            Check.dueThrow(x, "34 lost was word " + word, NONE, () -> x.firstUser(word));
        }
    }

    private static void read() {
        Tape x = Ring.inBattle(4, 1, 2);
        Check.dueThrow(x, "35 nothing yet", NONE, x::read);
        x.say(3, 0);
        Check.dueThrow(x, "35 an open bar", NONE, x::read);
        x.say(1, 50);
        x.closeBar();
        Check.due("35 first", 3, x::read);
        Ring.bar(x, 0);
        Check.due("35 second", 1, x::read);
        Check.due("35 of the next bar", 0, x::read);
        Check.dueThrow(x, "35 none by now", NONE, x::read);
        x.say(2, 0);
        Check.dueThrow(x, "35 still none", NONE, x::read);
        x.closeBar();
        Check.due("35 goes on", 2, x::read);
        Ring.bar(x, 1);
        x.decide(0);
        Check.due("35 goes on behind the decision", 1, x::read);
        Check.dueThrow(x, "35 no more", NONE, x::read);
        x.challenge(0, 1, 0);
        Check.dueThrow(x, "35 no more while a challenge waits", NONE, x::read);
        x.begin(1, 1);
        Check.dueThrow(x, "35 begins anew", NONE, x::read);
        Ring.bar(x, 2, 3);
        Check.due("35 anew", 2, x::read);
        Ring.bar(x, 1);
        x.decide(0);
        x.challenge(0, 1, 0);
        x.begin(1, 1);
        Ring.bar(x, 0);
        Check.due("35 not what was left of the battle before", 0, x::read);
        Check.dueThrow(x, "35 that was all", NONE, x::read);
    }

    /** All words of the first and the last bar, of both sides and of all rounds, and not one more. */
    private static void readAll() {
        Tape x = Ring.inBattle(3, 3, 4);
        for (int bar = 0; bar < 24; bar++) {
            Ring.bar(x, bar % 3, (bar + 1) % 3, 0, 1, 2, 2, 1, bar % 2);
        }
        for (int bar = 0; bar < 24; bar++) {
            int[] words = {bar % 3, (bar + 1) % 3, 0, 1, 2, 2, 1, bar % 2};
            for (int word : words) {
                Check.due("35 of bar " + bar, word, x::read);
            }
        }
        Check.dueThrow(x, "35 behind the last one", NONE, x::read);
    }
}
