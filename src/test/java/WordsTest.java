import java.util.NoSuchElementException;

/** Promises 1 to 11: words, accents, rhymes and the beat. */
public final class WordsTest {
    private static final Class<?> RANGE = IllegalArgumentException.class;
    private static final Class<?> STATE = IllegalStateException.class;
    private static final Class<?> INDEX = IndexOutOfBoundsException.class;
    private static final Class<?> NOT_NOW = UnsupportedOperationException.class;
    private static final Class<?> NONE = NoSuchElementException.class;

    public static void main(String[] args) {
        aNewObject();
        addSyllable();
        addSyllableWithoutStress();
        clearSyllables();
        addWord();
        addWordStressedOnce();
        addWordAtTheLimit();
        syllables();
        setAccent();
        rhymeIdentical();
        rhymeIdenticalBesideOtherSounds();
        rhymePerfect();
        rhymeByVowelsOrSlantly();
        rhymeOfTailsAlone();
        rhymeUnlikeByOne();
        rhymeOfTheLongestTails();
        rhymeThrows();
        near();
        nearAtMost();
        nearThrows();
        bestRhyme();
        bestRhymeBreaksTies();
        bestRhymeByKindAheadOfNearness();
        bestRhymeAtTheEndsOfTheWords();
        bestRhymeThrows();
        setBeat();
        setBeatThrows();
        setBeatInBattle();
        barTime();
        barTimeOfEachTempo();
        Check.end();
    }

    private static void aNewObject() {
        nothingIsThere("the first one");
        Tape other = Ring.inBattle(3, 1, 1);
        other.addJudge(1111, 0);
        other.addSample(0, 99, 100);
        Ring.bar(other, 0);
        nothingIsThere("beside another one");
        Check.due("1 the other one is as it was", 1, other::bars);
        Check.due("1 the other one is in its battle", 1, other::side);
    }

    private static void nothingIsThere(String which) {
        String what = "1 " + which + ": ";
        Tape x = new Tape();
        Check.dueThrow(x, what + "no word", INDEX, () -> x.syllables(0));
        Check.dueThrow(x, what + "no performer", INDEX, () -> x.rating(0));
        Check.dueThrow(x, what + "no judge", INDEX, () -> x.card(0, 0, 0));
        Check.dueThrow(x, what + "no sample", INDEX, () -> x.needsClearing(0));
        Check.dueThrow(x, what + "no marks", NONE, () -> x.marks(0, 0, 0, 0));
        Check.dueThrow(x, what + "nothing to read", NONE, x::read);
        Check.due(what + "no syllable", 0, x::clearSyllables);
        Check.due(what + "no battle", false, x::isOn);
        Check.due(what + "no bars", 0, x::bars);
        Check.due(what + "no time", 0L, x::elapsed);
        Check.due(what + "the first word", 0, () -> Ring.word(x, 1111));
        Check.due(what + "the first performer", 0, () -> x.addPerformer(0));
        Check.due(what + "the first judge", 0, () -> x.addJudge(0, 0));
        Check.due(what + "the first sample", 0, () -> x.addSample(0, 1, 0));
    }

    private static void addSyllable() {
        Tape x = new Tape();
        addSyllableOutOfRange(x, "as the first one");
        Check.due("2 first, lowest numbers", 1, () -> x.addSyllable(0, 0, 0, false));
        Check.due("2 second, highest numbers", 2, () -> x.addSyllable(9, 7, 9, true));
        addSyllableOutOfRange(x, "as the third one");
        Check.due("2 third", 3, () -> x.addSyllable(1, 1, 1, false));
        Check.due("2 fourth", 4, () -> x.addSyllable(1, 1, 1, false));
        Check.dueThrow(x, "2 fifth", STATE, () -> x.addSyllable(1, 1, 1, true));
        addSyllableOutOfRange(x, "ahead of a fifth one");
        Check.due("2 word", 0, () -> x.addWord(0, 0));
        Check.due("2 has four", 4, () -> x.syllables(0));
        Check.due("2 first of the next word", 1, () -> x.addSyllable(0, 0, 0, true));
    }

    private static void addSyllableOutOfRange(Tape x, String when) {
        Check.dueThrowBeyond(x, "2 " + when + ", onset", RANGE, 0, 9, n -> x.addSyllable(n, 0, 0, true));
        Check.dueThrowBeyond(x, "2 " + when + ", vowel", RANGE, 0, 7, n -> x.addSyllable(0, n, 0, true));
        Check.dueThrowBeyond(x, "2 " + when + ", coda", RANGE, 0, 9, n -> x.addSyllable(0, 0, n, false));
    }

    private static void addSyllableWithoutStress() {
        Tape x = new Tape();
        for (int i = 1; i <= 4; i++) {
            Check.due("2 unstressed", i, () -> x.addSyllable(0, 0, 0, false));
        }
        Check.dueThrow(x, "2 a fifth one, the first that is stressed", STATE, () -> x.addSyllable(0, 0, 0, true));
        Check.dueThrow(x, "4 four, none stressed", NOT_NOW, () -> x.addWord(0, 0));
    }

    private static void clearSyllables() {
        Tape x = new Tape();
        Check.due("3 empty", 0, x::clearSyllables);
        x.addSyllable(1, 1, 1, true);
        x.addSyllable(1, 1, 1, false);
        Check.due("3 two", 2, x::clearSyllables);
        Check.due("3 two are gone", 0, x::clearSyllables);
        x.addSyllable(2, 2, 2, false);
        Check.dueThrow(x, "3 the stress is gone, too", NOT_NOW, () -> x.addWord(0, 0));
        x.addSyllable(2, 2, 2, true);
        Check.due("3 word", 0, () -> x.addWord(0, 0));
        Check.due("3 word is cleared", 0, x::clearSyllables);
        Check.due("3 word has two", 2, () -> x.syllables(0));
        for (int i = 0; i < 4; i++) {
            x.addSyllable(3, 3, 3, true);
        }
        Check.due("3 four", 4, x::clearSyllables);
        Check.due("3 first again", 1, () -> x.addSyllable(3, 3, 3, true));
    }

    private static void addWord() {
        Tape x = new Tape();
        Check.dueThrow(x, "4 no syllable", NOT_NOW, () -> x.addWord(0, 0));
        addWordOutOfRange(x, "without syllables");
        x.addSyllable(1, 1, 1, false);
        Check.dueThrow(x, "4 none stressed", NOT_NOW, () -> x.addWord(2, 9));
        addWordOutOfRange(x, "with none stressed");
        Check.due("4 the draft is kept", 2, () -> x.addSyllable(1, 1, 1, true));
        addWordOutOfRange(x, "with one stressed");
        Check.due("4 first, highest numbers", 0, () -> x.addWord(2, 9));
        Check.dueThrow(x, "4 it is cleared", NOT_NOW, () -> x.addWord(0, 0));
        x.addSyllable(1, 1, 1, true);
        Check.due("4 second, lowest numbers", 1, () -> x.addWord(0, 0));
    }

    private static void addWordOutOfRange(Tape x, String when) {
        Check.dueThrowBeyond(x, "4 " + when + ", language", RANGE, 0, 2, n -> x.addWord(n, 0));
        Check.dueThrowBeyond(x, "4 " + when + ", topic", RANGE, 0, 9, n -> x.addWord(0, n));
    }

    private static void addWordStressedOnce() {
        for (int stressed = 0; stressed < 4; stressed++) {
            Tape x = new Tape();
            for (int i = 0; i < 4; i++) {
                x.addSyllable(1, 1, 1, i == stressed);
            }
            Check.due("4 stressed once, on syllable " + stressed, 0, () -> x.addWord(0, 0));
        }
    }

    private static void addWordAtTheLimit() {
        Tape x = Ring.withWords(23);
        x.addSyllable(1, 1, 1, true);
        Check.due("4 the 24th", 23, () -> x.addWord(0, 0));
        Check.dueThrow(x, "4 no syllable ahead of too many", NOT_NOW, () -> x.addWord(0, 0));
        x.addSyllable(3, 3, 3, false);
        Check.dueThrow(x, "4 none stressed ahead of too many", NOT_NOW, () -> x.addWord(0, 0));
        addWordOutOfRange(x, "with none stressed and too many");
        Check.due("4 a 25th is made", 2, () -> x.addSyllable(3, 3, 3, true));
        Check.dueThrow(x, "4 the 25th", STATE, () -> x.addWord(0, 0));
        addWordOutOfRange(x, "ahead of too many");
        Check.due("4 the 25th is not cleared", 2, x::clearSyllables);
        Check.due("4 the 24th is as it was", 1, () -> x.syllables(23));
    }

    private static void syllables() {
        Tape x = new Tape();
        Check.dueThrowBeyond(x, "5 without words,", INDEX, 0, -1, x::syllables);
        Ring.word(x, 1231);
        Ring.word(x, 1230, 1231);
        Ring.word(x, 1230, 1231, 1231);
        Ring.word(x, 1230, 1231, 1230, 1230);
        for (int i = 0; i < 4; i++) {
            int word = i;
            Check.due("5 of word " + word, word + 1, () -> x.syllables(word));
        }
        x.addSyllable(1, 1, 1, true);
        Check.dueThrowBeyond(x, "5 while a fifth is made,", INDEX, 0, 3, x::syllables);
        Tape y = Ring.withWords(24);
        Check.due("5 the last of all", 1, () -> y.syllables(23));
        Check.dueThrowBeyond(y, "5 with 24 words,", INDEX, 0, 23, y::syllables);
    }

    private static void setAccent() {
        Tape x = new Tape();
        for (int region = 0; region < 4; region++) {
            for (int vowel = 0; vowel < 8; vowel++) {
                int r = region;
                int v = vowel;
                Check.due("6 at first itself", v, () -> x.setAccent(r, v, v));
            }
        }
        Check.due("6 set", 7, () -> x.setAccent(3, 7, 0));
        Check.due("6 was set", 0, () -> x.setAccent(3, 7, 5));
        Check.due("6 other region", 7, () -> x.setAccent(2, 7, 7));
        Check.due("6 other vowel", 6, () -> x.setAccent(3, 6, 6));
        Check.due("6 first region, first vowel, last one as it sounds", 0, () -> x.setAccent(0, 0, 7));
        Check.due("6 first region, first vowel, as it was set", 7, () -> x.setAccent(0, 0, 0));
        Check.dueThrowBeyond(x, "6 region", RANGE, 0, 3, n -> x.setAccent(n, 0, 0));
        Check.dueThrowBeyond(x, "6 vowel", RANGE, 0, 7, n -> x.setAccent(0, n, 0));
        Check.dueThrowBeyond(x, "6 as", RANGE, 0, 7, n -> x.setAccent(3, 7, n));
        Check.due("6 as it was", 5, () -> x.setAccent(3, 7, 5));
    }

    private static void rhymeIdentical() {
        Tape x = new Tape();
        Ring.word(x, 1230, 4561);
        Ring.word(x, 1231, 4560);
        Ring.word(x, 1730, 4561);
        Ring.word(x, 4561);
        Check.due("7 itself", 'i', () -> x.rhyme(0, 0, 0));
        Check.due("7 stress does not matter", 'i', () -> x.rhyme(0, 1, 0));
        Check.due("7 a vowel ahead of the tail matters", 'v', () -> x.rhyme(0, 2, 0));
        Check.due("7 the number of syllables matters", 'v', () -> x.rhyme(0, 3, 0));
        x.setAccent(2, 7, 2);
        Check.due("7 as it sounds", 'i', () -> x.rhyme(0, 2, 2));
        Check.due("7 not in another region", 'v', () -> x.rhyme(0, 2, 1));
        x.setAccent(2, 2, 7);
        Check.due("7 a sound is not heard again as another", 'v', () -> x.rhyme(0, 2, 2));
    }

    private static void rhymeIdenticalBesideOtherSounds() {
        Tape x = new Tape();
        Ring.word(x, 1111, 2220, 3330, 4440);
        Ring.word(x, 1111, 2220, 3330, 4440);
        Ring.word(x, 5551);
        x.addSyllable(1, 1, 1, true);
        x.addSyllable(9, 7, 9, true);
        Ring.word(x, 5551);
        Check.due("7 four like syllables", 'i', () -> x.rhyme(0, 1, 0));
        Check.due("7 whatever was made and cleared", 'i', () -> x.rhyme(2, 3, 0));
        Check.due("5 without what was cleared", 1, () -> x.syllables(3));
    }

    private static void rhymePerfect() {
        Tape x = new Tape();
        Ring.word(x, 1231, 4560);
        Ring.word(x, 2231, 4560);
        Ring.word(x, 2231, 3560);
        Ring.word(x, 2231, 4570);
        Ring.word(x, 9790, 1231, 4560);
        Ring.word(x, 9790, 2231, 4560);
        Ring.word(x, 2241, 4560);
        Check.due("7 perfect", 'p', () -> x.rhyme(0, 1, 0));
        Check.due("7 perfect the other way", 'p', () -> x.rhyme(1, 0, 0));
        Check.due("7 unlike onset behind the first", 'v', () -> x.rhyme(0, 2, 0));
        Check.due("7 unlike coda", 'v', () -> x.rhyme(0, 3, 0));
        Check.due("7 unlike first coda", 'v', () -> x.rhyme(0, 6, 0));
        Check.due("7 like first onset, not identical", 'v', () -> x.rhyme(0, 4, 0));
        Check.due("7 perfect with more ahead", 'p', () -> x.rhyme(0, 5, 0));
    }

    private static void rhymeByVowelsOrSlantly() {
        Tape x = new Tape();
        Ring.word(x, 1011);
        Ring.word(x, 1321);
        Ring.word(x, 1311);
        Ring.word(x, 1331, 1330);
        Ring.word(x, 2411);
        Ring.word(x, 2091);
        Ring.word(x, 2091, 2010);
        Ring.word(x, 2011, 2110);
        Ring.word(x, 2011, 2110, 2010);
        Check.due("7 near by 7", '-', () -> x.rhyme(0, 1, 0));
        Check.due("7 near by 6", 's', () -> x.rhyme(0, 2, 0));
        Check.due("7 far and longer", '-', () -> x.rhyme(0, 3, 0));
        Check.due("7 near by 8", '-', () -> x.rhyme(0, 4, 0));
        Check.due("7 by vowels", 'v', () -> x.rhyme(0, 5, 0));
        Check.due("7 slantly though longer", 's', () -> x.rhyme(0, 6, 0));
        Check.due("7 slantly by 4 and 2", 's', () -> x.rhyme(0, 7, 0));
        Check.due("7 like vowels, but longer by two", '-', () -> x.rhyme(0, 8, 0));
        x.setAccent(1, 4, 3);
        Check.due("7 slantly as it sounds", 's', () -> x.rhyme(0, 4, 1));
        x.setAccent(1, 4, 0);
        Check.due("7 perfectly as it sounds", 'p', () -> x.rhyme(0, 4, 1));
    }

    private static void rhymeOfTailsAlone() {
        Tape x = new Tape();
        Ring.word(x, 1001, 2221, 3330);
        Ring.word(x, 1771, 4221, 3330);
        Ring.word(x, 4221, 3330);
        Ring.word(x, 1001, 2220, 3331);
        Check.due("7 from the last stressed one", 'p', () -> x.rhyme(0, 1, 0));
        Check.due("7 tails as long", 'p', () -> x.rhyme(0, 2, 0));
        Check.due("7 same sounds, other tail", 'i', () -> x.rhyme(0, 3, 0));
        Check.due("7 shorter tail", 's', () -> x.rhyme(1, 3, 0));
    }

    /** Two words that are unlike in one sign alone. */
    private static void rhymeUnlikeByOne() {
        int[][] others = {{3111, 2220}, {1111, 3220}, {1131, 2220}, {1111, 2230}, {1311, 2220}, {1111, 2320},
            {1111, 2221}};
        String kinds = "pvvvssi";
        Tape x = new Tape();
        Ring.word(x, 1111, 2220);
        for (int i = 0; i < others.length; i++) {
            int other = Ring.word(x, others[i]);
            Check.due("7 unlike by one, " + i, kinds.charAt(i), () -> x.rhyme(0, other, 0));
            Check.due("7 unlike by one, the other way, " + i, kinds.charAt(i), () -> x.rhyme(other, 0, 0));
        }
        Ring.word(x, 1110, 2221);
        int[][] unlikeAhead = {{3110, 2221}, {1310, 2221}, {1130, 2221}};
        for (int[] syllables : unlikeAhead) {
            int other = Ring.word(x, syllables);
            Check.due("7 unlike ahead of the tail, " + other, 'v', () -> x.rhyme(8, other, 0));
        }
    }

    private static void rhymeOfTheLongestTails() {
        int[][] others = {{9111, 2220, 3330, 4440}, {9111, 2220, 3330, 9440}, {9111, 2220, 3330, 4490},
            {9111, 9220, 3330, 4440}, {9111, 2220, 3330, 4740}, {9111, 2220, 3330, 4770}};
        String kinds = "pvvvs-";
        Tape x = new Tape();
        Ring.word(x, 1111, 2220, 3330, 4440);
        for (int i = 0; i < others.length; i++) {
            int other = Ring.word(x, others[i]);
            Check.due("7 four syllables, " + i, kinds.charAt(i), () -> x.rhyme(0, other, 0));
        }
    }

    private static void rhymeThrows() {
        Tape x = Ring.withWords(2);
        for (int region : new int[] {0, 4}) {
            Check.dueThrowBeyond(x, "7 region " + region + ", word", INDEX, 0, 1, n -> x.rhyme(n, 0, region));
            Check.dueThrowBeyond(x, "7 region " + region + ", other", INDEX, 0, 1, n -> x.rhyme(0, n, region));
        }
        Check.dueThrowBeyond(x, "7 region", RANGE, 0, 3, n -> x.rhyme(0, 1, n));
        Check.due("7 the last ones", 'i', () -> x.rhyme(1, 1, 3));
        Tape y = new Tape();
        Check.dueThrow(y, "7 no words", INDEX, () -> y.rhyme(0, 0, 4));
    }

    private static void near() {
        Tape x = new Tape();
        Ring.word(x, 1011);
        Ring.word(x, 5721);
        Ring.word(x, 1001, 1111, 3220);
        Ring.word(x, 1221, 1330, 1440, 1550);
        Check.due("8 itself", 0, () -> x.near(0, 0, 0));
        Check.due("8 vowels and codas", 15, () -> x.near(0, 1, 0));
        Check.due("8 the other way", 15, () -> x.near(1, 0, 0));
        Check.due("8 from the end on", 9, () -> x.near(0, 2, 0));
        Check.due("8 three more syllables", 23, () -> x.near(0, 3, 0));
        Check.due("8 two and four syllables", 8 + 7 + 7, () -> x.near(2, 3, 0));
        x.setAccent(3, 7, 1);
        Check.due("8 as they sound", 3, () -> x.near(0, 1, 3));
        Check.due("8 not in another region", 15, () -> x.near(0, 1, 2));
    }

    private static void nearAtMost() {
        Tape x = new Tape();
        Ring.word(x, 1001, 1000, 1000, 1000);
        Ring.word(x, 9791, 9790, 9790, 9790);
        Ring.word(x, 1000, 1000, 1000, 1001);
        Ring.word(x, 9791);
        Check.due("8 as far as can be", 4 * (2 * 7 + 1), () -> x.near(0, 1, 0));
        Check.due("8 one and four syllables, unlike", 2 * 7 + 1 + 3 * 4, () -> x.near(3, 0, 0));
        Check.due("8 the tails alone", 2 * 7 + 1, () -> x.near(2, 3, 0));
        Check.due("8 like ends", 3 * 4, () -> x.near(2, 0, 0));
        Check.due("8 the last one and itself, in the last region", 0, () -> x.near(3, 3, 3));
    }

    private static void nearThrows() {
        Tape x = Ring.withWords(2);
        for (int region : new int[] {0, -1}) {
            Check.dueThrowBeyond(x, "8 region " + region + ", word", INDEX, 0, 1, n -> x.near(n, 0, region));
            Check.dueThrowBeyond(x, "8 region " + region + ", other", INDEX, 0, 1, n -> x.near(0, n, region));
        }
        Check.dueThrowBeyond(x, "8 region", RANGE, 0, 3, n -> x.near(0, 1, n));
        Tape y = new Tape();
        Check.dueThrow(y, "8 no words", INDEX, () -> y.near(0, 0, 4));
    }

    private static void bestRhyme() {
        Tape x = new Tape();
        Ring.word(x, 1011);
        Ring.word(x, 1011);
        Check.dueThrow(x, "9 an identical one does not rhyme so", NONE, () -> x.bestRhyme(0, 0));
        Ring.word(x, 1711);
        Check.dueThrow(x, "9 a far one does not rhyme so", NONE, () -> x.bestRhyme(0, 0));
        Ring.word(x, 1311);
        Check.due("9 slantly", 3, () -> x.bestRhyme(0, 0));
        Ring.word(x, 1091);
        Check.due("9 by vowels", 4, () -> x.bestRhyme(0, 0));
        Ring.word(x, 2011);
        Check.due("9 perfectly", 5, () -> x.bestRhyme(0, 0));
        Check.due("9 the lowest of two as good", 0, () -> x.bestRhyme(5, 0));
        x.setAccent(1, 0, 3);
        x.setAccent(1, 3, 0);
        x.setAccent(1, 7, 2);
        Check.due("9 by the region", 5, () -> x.bestRhyme(0, 1));
        Check.due("9 by the region, of a far one", 0, () -> x.bestRhyme(2, 1));
    }

    private static void bestRhymeBreaksTies() {
        Tape x = new Tape();
        Ring.word(x, 1011);
        Ring.word(x, 1311);
        Ring.word(x, 1211);
        Ring.word(x, 2221);
        Ring.word(x, 3211);
        Check.due("9 the nearest of those slant, then the lowest", 2, () -> x.bestRhyme(0, 0));
        Ring.word(x, 1021, 1010);
        Ring.word(x, 1021);
        Ring.word(x, 1091);
        Check.due("9 the lowest of those by vowels", 6, () -> x.bestRhyme(0, 0));
        Tape y = new Tape();
        Ring.word(y, 1011, 1010);
        Ring.word(y, 1021, 1020);
        Ring.word(y, 1021, 1010);
        Ring.word(y, 1011, 1020);
        Check.due("9 the nearest of those by vowels", 2, () -> y.bestRhyme(0, 0));
        Check.due("9 of the last word", 0, () -> y.bestRhyme(3, 0));
    }

    private static void bestRhymeByKindAheadOfNearness() {
        Tape x = new Tape();
        Ring.word(x, 1011, 1010, 1010, 1010);
        Ring.word(x, 1011, 1010, 1010, 1110);
        Check.due("9 slantly, near by 2", 1, () -> x.bestRhyme(0, 0));
        Ring.word(x, 1021, 1020, 1020, 1020);
        Check.due("8 by vowels, but near by 4", 4, () -> x.near(0, 2, 0));
        Check.due("9 by vowels ahead of slantly, though farther", 2, () -> x.bestRhyme(0, 0));
        Tape y = new Tape();
        Ring.word(y, 1011);
        Ring.word(y, 3010, 1011);
        Ring.word(y, 2011);
        Check.due("8 by vowels, and near by 0", 0, () -> y.near(0, 1, 0));
        Check.due("9 perfectly ahead of by vowels, as near and higher", 2, () -> y.bestRhyme(0, 0));
    }

    private static void bestRhymeAtTheEndsOfTheWords() {
        Tape x = Ring.withWords(22);
        x.addSyllable(9, 7, 9, true);
        Check.due("9 the 23rd", 22, () -> x.addWord(0, 0));
        x.addSyllable(8, 7, 9, true);
        Check.due("9 the 24th", 23, () -> x.addWord(0, 0));
        Check.due("9 the last one of all", 23, () -> x.bestRhyme(22, 3));
        Check.due("9 of the last one of all", 22, () -> x.bestRhyme(23, 3));
        Check.due("9 the first one of all", 0, () -> x.bestRhyme(8, 0));
        Check.due("9 of the first one of all", 8, () -> x.bestRhyme(0, 0));
    }

    private static void bestRhymeThrows() {
        Tape x = new Tape();
        Check.dueThrow(x, "9 no words", INDEX, () -> x.bestRhyme(0, 4));
        Ring.word(x, 1011);
        Check.dueThrow(x, "9 alone", NONE, () -> x.bestRhyme(0, 0));
        Check.dueThrowBeyond(x, "9 word", INDEX, 0, 0, n -> x.bestRhyme(n, 0));
        Check.dueThrowBeyond(x, "9 word ahead of region, word", INDEX, 0, 0, n -> x.bestRhyme(n, 4));
        Check.dueThrowBeyond(x, "9 alone, region", RANGE, 0, 3, n -> x.bestRhyme(0, n));
        Ring.word(x, 2011);
        Check.due("9 the last region", 1, () -> x.bestRhyme(0, 3));
        Check.dueThrowBeyond(x, "9 not alone, region", RANGE, 0, 3, n -> x.bestRhyme(0, n));
    }

    private static void setBeat() {
        Tape x = new Tape();
        Check.due("10 90 at first", 90, () -> x.setBeat(60, 0));
        Check.due("10 60 before", 60, () -> x.setBeat(180, 49));
        Check.due("10 180 before", 180, () -> x.setBeat(90, 10));
    }

    private static void setBeatThrows() {
        Tape x = new Tape();
        setBeatOutOfRange(x, "at first");
        Check.due("10 as it was", 90, () -> x.setBeat(100, 0));
        setBeatOutOfRange(x, "behind another one");
    }

    private static void setBeatOutOfRange(Tape x, String when) {
        Check.dueThrowBeyond(x, "10 " + when + ", tempo", RANGE, 60, 180, n -> x.setBeat(n, 10));
        Check.dueThrowBeyond(x, "10 " + when + ", pocket", RANGE, 0, 49, n -> x.setBeat(100, n));
    }

    private static void setBeatInBattle() {
        Tape x = Ring.inBattle(1, 1, 1);
        Check.dueThrow(x, "10 in a battle", STATE, () -> x.setBeat(100, 10));
        setBeatOutOfRange(x, "in a battle");
        x.choke();
        Check.dueThrow(x, "10 in the last turn", STATE, () -> x.setBeat(60, 0));
        x.choke();
        Check.dueThrow(x, "10 in a battle that waits", STATE, () -> x.setBeat(100, 10));
        setBeatOutOfRange(x, "in a battle that waits");
        x.decide(0);
        Check.due("10 behind a battle", 90, () -> x.setBeat(100, 10));
        x.challenge(0, 1, 0);
        Check.due("10 while a challenge waits", 100, () -> x.setBeat(101, 10));
    }

    private static void barTime() {
        Tape x = new Tape();
        Check.due("11 at first, cut", 2666, x::barTime);
        int[] tempos = {60, 61, 107, 179, 180};
        int[] times = {4000, 3934, 2242, 1340, 1333};
        for (int i = 0; i < tempos.length; i++) {
            x.setBeat(tempos[i], 0);
            Check.due("11 at " + tempos[i], times[i], x::barTime);
        }
    }

    /** How often the tempo goes into 240000; once more is too often. */
    private static void barTimeOfEachTempo() {
        Tape x = new Tape();
        for (int tempo = 60; tempo <= 180; tempo++) {
            x.setBeat(tempo, 0);
            int time = x.barTime();
            boolean isCut = time * tempo <= 240000 && (time + 1) * tempo > 240000;
            Check.due("11 at " + tempo + ", cut to " + time, true, () -> isCut);
        }
    }
}
