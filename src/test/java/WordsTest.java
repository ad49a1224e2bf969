import java.util.NoSuchElementException;

/** Promises 1 to 11: words, accents, rhymes and the beat. */
public final class WordsTest {
    private static final Class<?> RANGE = IllegalArgumentException.class;
    private static final Class<?> STATE = IllegalStateException.class;
    private static final Class<?> INDEX = IndexOutOfBoundsException.class;
    private static final Class<?> NOT_NOW = UnsupportedOperationException.class;
    private static final Class<?> NONE = NoSuchElementException.class;

    public static void main(String[] args) {
        aNewObject();
        addSyllable();
        clearSyllables();
        addWord();
        addWordAtTheLimit();
        syllables();
        setAccent();
        rhymeIdentical();
        rhymeIdenticalBesideOtherSounds();
        rhymePerfect();
        rhymeByVowelsOrSlantly();
        rhymeOfTailsAlone();
        rhymeThrows();
        near();
        nearThrows();
        bestRhyme();
        bestRhymeBreaksTies();
        bestRhymeThrows();
        setBeat();
        setBeatThrows();
        setBeatInBattle();
        barTime();
        Check.end();
    }

    private static void aNewObject() {
        CypherRing x = new CypherRing();
        Check.dueThrow("1 new: no word", INDEX, () -> x.syllables(0));
        Check.dueThrow("1 new: no performer", INDEX, () -> x.rating(0));
        Check.dueThrow("1 new: no judge", INDEX, () -> x.card(0, 0, 0));
        Check.dueThrow("1 new: no sample", INDEX, () -> x.needsClearing(0));
        Check.due("1 new: draft is empty", 0, x::clearSyllables);
        Check.due("1 new: no battle", false, x::isOn);
        Check.due("1 new: no bars", 0, x::bars);
        Check.dueThrow("1 new: nothing to read", NONE, x::read);
        Ring.inBattle(3, 1, 1);
        CypherRing y = new CypherRing();
        Check.due("1 two rings share nothing", Ring.told(x), () -> Ring.told(y));
    }

    private static void addSyllable() {
        CypherRing x = new CypherRing();
        Check.due("2 first", 1, () -> x.addSyllable(0, 0, 0, false));
        Check.due("2 highest numbers", 2, () -> x.addSyllable(9, 7, 9, true));
        Check.dueThrow(x, "2 onset -1", RANGE, () -> x.addSyllable(-1, 0, 0, true));
        Check.dueThrow(x, "2 onset 10", RANGE, () -> x.addSyllable(10, 0, 0, true));
        Check.dueThrow(x, "2 vowel -1", RANGE, () -> x.addSyllable(0, -1, 0, true));
        Check.dueThrow(x, "2 vowel 8", RANGE, () -> x.addSyllable(0, 8, 0, true));
        Check.dueThrow(x, "2 coda -1", RANGE, () -> x.addSyllable(0, 0, -1, true));
        Check.dueThrow(x, "2 coda 10", RANGE, () -> x.addSyllable(0, 0, 10, true));
        Check.dueThrow(x, "2 least int", RANGE, () -> x.addSyllable(Integer.MIN_VALUE, 0, 0, true));
        Check.due("2 third", 3, () -> x.addSyllable(1, 1, 1, false));
        Check.due("2 fourth", 4, () -> x.addSyllable(1, 1, 1, false));
        Check.dueThrow(x, "2 fifth", STATE, () -> x.addSyllable(1, 1, 1, true));
        Check.dueThrow(x, "2 range ahead of fifth", RANGE, () -> x.addSyllable(1, 8, 1, true));
        Check.due("2 word", 0, () -> x.addWord(0, 0));
        Check.due("2 has four", 4, () -> x.syllables(0));
        Check.due("2 first of the next word", 1, () -> x.addSyllable(0, 0, 0, true));
    }

    private static void clearSyllables() {
        CypherRing x = new CypherRing();
        Check.due("3 empty", 0, x::clearSyllables);
        x.addSyllable(1, 1, 1, true);
        x.addSyllable(1, 1, 1, false);
        Check.due("3 two", 2, x::clearSyllables);
        Check.due("3 two are gone", 0, x::clearSyllables);
        x.addSyllable(2, 2, 2, false);
        Check.dueThrow("3 the stress is gone, too", NOT_NOW, () -> x.addWord(0, 0));
        x.addSyllable(2, 2, 2, true);
        Check.due("3 word", 0, () -> x.addWord(0, 0));
        Check.due("3 word is cleared", 0, x::clearSyllables);
        Check.due("3 word has two", 2, () -> x.syllables(0));
    }

    private static void addWord() {
        CypherRing x = new CypherRing();
        Check.dueThrow(x, "4 no syllable", NOT_NOW, () -> x.addWord(0, 0));
        x.addSyllable(1, 1, 1, false);
        Check.dueThrow(x, "4 none stressed", NOT_NOW, () -> x.addWord(2, 9));
        Check.dueThrow(x, "4 language 3", RANGE, () -> x.addWord(3, 0));
        Check.dueThrow(x, "4 language -1", RANGE, () -> x.addWord(-1, 0));
        Check.dueThrow(x, "4 topic 10", RANGE, () -> x.addWord(0, 10));
        Check.dueThrow(x, "4 topic -1", RANGE, () -> x.addWord(0, -1));
        Check.due("4 the draft is kept", 2, () -> x.addSyllable(1, 1, 1, true));
        Check.due("4 first", 0, () -> x.addWord(2, 9));
        Check.dueThrow(x, "4 it is cleared", NOT_NOW, () -> x.addWord(0, 0));
        x.addSyllable(1, 1, 1, true);
        Check.due("4 second", 1, () -> x.addWord(0, 0));
    }

    private static void addWordAtTheLimit() {
        CypherRing x = Ring.withWords(23);
        x.addSyllable(1, 1, 1, true);
        Check.due("4 the 24th", 23, () -> x.addWord(0, 0));
        Check.dueThrow(x, "4 unstressed ahead of too many", NOT_NOW, () -> x.addWord(0, 0));
        Check.due("4 a 25th is made", 1, () -> x.addSyllable(3, 3, 3, true));
        Check.dueThrow(x, "4 the 25th", STATE, () -> x.addWord(0, 0));
        Check.dueThrow(x, "4 range ahead of too many", RANGE, () -> x.addWord(0, 10));
        Check.due("4 the 25th is not cleared", 1, x::clearSyllables);
        Check.due("4 the 24th is as it was", 1, () -> x.syllables(23));
    }

    private static void syllables() {
        CypherRing x = new CypherRing();
        Ring.word(x, 1231);
        Ring.word(x, 1230, 1231, 1230, 1230);
        Check.due("5 one", 1, () -> x.syllables(0));
        Check.due("5 four", 4, () -> x.syllables(1));
        x.addSyllable(1, 1, 1, true);
        Check.dueThrow(x, "5 the word that is made is none", INDEX, () -> x.syllables(2));
        Check.dueThrow(x, "5 -1", INDEX, () -> x.syllables(-1));
        Check.dueThrow(x, "5 greatest int", INDEX, () -> x.syllables(Integer.MAX_VALUE));
    }

    private static void setAccent() {
        CypherRing x = new CypherRing();
        for (int region = 0; region < 4; region++) {
            for (int vowel = 0; vowel < 8; vowel++) {
                int r = region;
                int v = vowel;
                Check.due("6 at first itself", v, () -> x.setAccent(r, v, v));
            }
        }
        Check.due("6 set", 7, () -> x.setAccent(3, 7, 0));
        Check.due("6 was set", 0, () -> x.setAccent(3, 7, 5));
        Check.due("6 other region", 7, () -> x.setAccent(2, 7, 7));
        Check.dueThrow("6 region -1", RANGE, () -> x.setAccent(-1, 0, 0));
        Check.dueThrow("6 region 4", RANGE, () -> x.setAccent(4, 0, 0));
        Check.dueThrow("6 vowel -1", RANGE, () -> x.setAccent(0, -1, 0));
        Check.dueThrow("6 vowel 8", RANGE, () -> x.setAccent(0, 8, 0));
        Check.dueThrow("6 as -1", RANGE, () -> x.setAccent(3, 7, -1));
        Check.dueThrow("6 as 8", RANGE, () -> x.setAccent(3, 7, 8));
        Check.due("6 as it was", 5, () -> x.setAccent(3, 7, 5));
    }

    private static void rhymeIdentical() {
        CypherRing x = new CypherRing();
        Ring.word(x, 1230, 4561);
        Ring.word(x, 1231, 4560);
        Ring.word(x, 1730, 4561);
        Ring.word(x, 4561);
        Check.due("7 itself", 'i', () -> x.rhyme(0, 0, 0));
        Check.due("7 stress does not matter", 'i', () -> x.rhyme(0, 1, 0));
        Check.due("7 a vowel ahead of the tail matters", 'v', () -> x.rhyme(0, 2, 0));
        Check.due("7 the number of syllables matters", 'v', () -> x.rhyme(0, 3, 0));
        x.setAccent(2, 7, 2);
        Check.due("7 as it sounds", 'i', () -> x.rhyme(0, 2, 2));
        Check.due("7 not in another region", 'v', () -> x.rhyme(0, 2, 1));
        x.setAccent(2, 2, 7);
        Check.due("7 a sound is not heard again as another", 'v', () -> x.rhyme(0, 2, 2));
    }

    private static void rhymeIdenticalBesideOtherSounds() {
        CypherRing x = new CypherRing();
        Ring.word(x, 1111, 2220, 3330, 4440);
        Ring.word(x, 1111, 2220, 3330, 4440);
        Ring.word(x, 5551);
        x.addSyllable(1, 1, 1, true);
        x.addSyllable(9, 7, 9, true);
        Ring.word(x, 5551);
        Check.due("7 four like syllables", 'i', () -> x.rhyme(0, 1, 0));
        Check.due("7 whatever was made and cleared", 'i', () -> x.rhyme(2, 3, 0));
        Check.due("5 without what was cleared", 1, () -> x.syllables(3));
    }

    private static void rhymePerfect() {
        CypherRing x = new CypherRing();
        Ring.word(x, 1231, 4560);
        Ring.word(x, 2231, 4560);
        Ring.word(x, 2231, 3560);
        Ring.word(x, 2231, 4570);
        Ring.word(x, 9790, 1231, 4560);
        Ring.word(x, 9790, 2231, 4560);
        Ring.word(x, 2241, 4560);
        Check.due("7 perfect", 'p', () -> x.rhyme(0, 1, 0));
        Check.due("7 perfect the other way", 'p', () -> x.rhyme(1, 0, 0));
        Check.due("7 unlike onset behind the first", 'v', () -> x.rhyme(0, 2, 0));
        Check.due("7 unlike coda", 'v', () -> x.rhyme(0, 3, 0));
        Check.due("7 unlike first coda", 'v', () -> x.rhyme(0, 6, 0));
        Check.due("7 like first onset, not identical", 'v', () -> x.rhyme(0, 4, 0));
        Check.due("7 perfect with more ahead", 'p', () -> x.rhyme(0, 5, 0));
    }

    private static void rhymeByVowelsOrSlantly() {
        CypherRing x = new CypherRing();
        Ring.word(x, 1011);
        Ring.word(x, 1321);
        Ring.word(x, 1311);
        Ring.word(x, 1331, 1330);
        Ring.word(x, 2411);
        Ring.word(x, 2091);
        Ring.word(x, 2091, 2010);
        Ring.word(x, 2011, 2110);
        Ring.word(x, 2011, 2110, 2010);
        Check.due("7 near by 7", '-', () -> x.rhyme(0, 1, 0));
        Check.due("7 near by 6", 's', () -> x.rhyme(0, 2, 0));
        Check.due("7 far and longer", '-', () -> x.rhyme(0, 3, 0));
        Check.due("7 near by 8", '-', () -> x.rhyme(0, 4, 0));
        Check.due("7 by vowels", 'v', () -> x.rhyme(0, 5, 0));
        Check.due("7 slantly though longer", 's', () -> x.rhyme(0, 6, 0));
        Check.due("7 slantly by 4 and 2", 's', () -> x.rhyme(0, 7, 0));
        Check.due("7 like vowels, but longer by two", '-', () -> x.rhyme(0, 8, 0));
        x.setAccent(1, 4, 3);
        Check.due("7 slantly as it sounds", 's', () -> x.rhyme(0, 4, 1));
        x.setAccent(1, 4, 0);
        Check.due("7 perfectly as it sounds", 'p', () -> x.rhyme(0, 4, 1));
    }

    private static void rhymeOfTailsAlone() {
        CypherRing x = new CypherRing();
        Ring.word(x, 1001, 2221, 3330);
        Ring.word(x, 1771, 4221, 3330);
        Ring.word(x, 4221, 3330);
        Ring.word(x, 1001, 2220, 3331);
        Check.due("7 from the last stressed one", 'p', () -> x.rhyme(0, 1, 0));
        Check.due("7 tails as long", 'p', () -> x.rhyme(0, 2, 0));
        Check.due("7 same sounds, other tail", 'i', () -> x.rhyme(0, 3, 0));
        Check.due("7 shorter tail", 's', () -> x.rhyme(1, 3, 0));
    }

    private static void rhymeThrows() {
        CypherRing x = Ring.withWords(2);
        Check.dueThrow(x, "7 word 2", INDEX, () -> x.rhyme(2, 0, 0));
        Check.dueThrow(x, "7 word -1", INDEX, () -> x.rhyme(-1, 0, 0));
        Check.dueThrow(x, "7 other 2", INDEX, () -> x.rhyme(0, 2, 0));
        Check.dueThrow(x, "7 other -1", INDEX, () -> x.rhyme(0, -1, 0));
        Check.dueThrow(x, "7 region 4", RANGE, () -> x.rhyme(0, 1, 4));
        Check.dueThrow(x, "7 region -1", RANGE, () -> x.rhyme(0, 1, -1));
        Check.dueThrow(x, "7 word ahead of region", INDEX, () -> x.rhyme(0, 2, 4));
    }

    private static void near() {
        CypherRing x = new CypherRing();
        Ring.word(x, 1011);
        Ring.word(x, 5721);
        Ring.word(x, 1001, 1111, 3220);
        Ring.word(x, 1221, 1330, 1440, 1550);
        Check.due("8 itself", 0, () -> x.near(0, 0, 0));
        Check.due("8 vowels and codas", 15, () -> x.near(0, 1, 0));
        Check.due("8 the other way", 15, () -> x.near(1, 0, 0));
        Check.due("8 from the end on", 9, () -> x.near(0, 2, 0));
        Check.due("8 three more syllables", 23, () -> x.near(0, 3, 0));
        Check.due("8 two and four syllables", 8 + 7 + 7, () -> x.near(2, 3, 0));
        x.setAccent(3, 7, 1);
        Check.due("8 as they sound", 3, () -> x.near(0, 1, 3));
        Check.due("8 not in another region", 15, () -> x.near(0, 1, 2));
    }

    private static void nearThrows() {
        CypherRing x = Ring.withWords(2);
        Check.dueThrow(x, "8 word 2", INDEX, () -> x.near(2, 0, 0));
        Check.dueThrow(x, "8 word -1", INDEX, () -> x.near(-1, 0, 0));
        Check.dueThrow(x, "8 other 2", INDEX, () -> x.near(0, 2, 0));
        Check.dueThrow(x, "8 other -1", INDEX, () -> x.near(0, -1, 0));
        Check.dueThrow(x, "8 region 4", RANGE, () -> x.near(0, 1, 4));
        Check.dueThrow(x, "8 region -1", RANGE, () -> x.near(0, 1, -1));
        Check.dueThrow(x, "8 word ahead of region", INDEX, () -> x.near(-1, 0, -1));
    }

    private static void bestRhyme() {
        CypherRing x = new CypherRing();
        Ring.word(x, 1011);
        Ring.word(x, 1011);
        Check.dueThrow("9 an identical one does not rhyme so", NONE, () -> x.bestRhyme(0, 0));
        Ring.word(x, 1711);
        Check.dueThrow("9 a far one does not rhyme so", NONE, () -> x.bestRhyme(0, 0));
        Ring.word(x, 1311);
        Check.due("9 slantly", 3, () -> x.bestRhyme(0, 0));
        Ring.word(x, 1091);
        Check.due("9 by vowels", 4, () -> x.bestRhyme(0, 0));
        Ring.word(x, 2011);
        Check.due("9 perfectly", 5, () -> x.bestRhyme(0, 0));
        Check.due("9 the lowest of two as good", 0, () -> x.bestRhyme(5, 0));
        x.setAccent(1, 0, 3);
        x.setAccent(1, 3, 0);
        x.setAccent(1, 7, 2);
        Check.due("9 by the region", 5, () -> x.bestRhyme(0, 1));
        Check.due("9 by the region, of a far one", 0, () -> x.bestRhyme(2, 1));
    }

    private static void bestRhymeBreaksTies() {
        CypherRing x = new CypherRing();
        Ring.word(x, 1011);
        Ring.word(x, 1311);
        Ring.word(x, 1211);
        Ring.word(x, 2221);
        Ring.word(x, 3211);
        Check.due("9 the nearest of those slant, then the lowest", 2, () -> x.bestRhyme(0, 0));
        Ring.word(x, 1021, 1010);
        Ring.word(x, 1021);
        Ring.word(x, 1091);
        Check.due("9 the lowest of those by vowels", 6, () -> x.bestRhyme(0, 0));
        CypherRing y = new CypherRing();
        Ring.word(y, 1011, 1010);
        Ring.word(y, 1021, 1020);
        Ring.word(y, 1021, 1010);
        Ring.word(y, 1011, 1020);
        Check.due("9 the nearest of those by vowels", 2, () -> y.bestRhyme(0, 0));
        Check.due("9 of the last word", 0, () -> y.bestRhyme(3, 0));
    }

    private static void bestRhymeThrows() {
        CypherRing x = Ring.withWords(1);
        Check.dueThrow(x, "9 alone", NONE, () -> x.bestRhyme(0, 0));
        Check.dueThrow(x, "9 word 1", INDEX, () -> x.bestRhyme(1, 0));
        Check.dueThrow(x, "9 word -1", INDEX, () -> x.bestRhyme(-1, 4));
        Check.dueThrow(x, "9 region 4", RANGE, () -> x.bestRhyme(0, 4));
        Check.dueThrow(x, "9 region -1", RANGE, () -> x.bestRhyme(0, -1));
    }

    private static void setBeat() {
        CypherRing x = new CypherRing();
        Check.due("10 90 at first", 90, () -> x.setBeat(60, 0));
        Check.due("10 60 before", 60, () -> x.setBeat(180, 49));
        Check.due("10 180 before", 180, () -> x.setBeat(90, 10));
    }

    private static void setBeatThrows() {
        CypherRing x = new CypherRing();
        Check.dueThrow(x, "10 tempo 59", RANGE, () -> x.setBeat(59, 10));
        Check.dueThrow(x, "10 tempo 181", RANGE, () -> x.setBeat(181, 10));
        Check.dueThrow(x, "10 tempo 0", RANGE, () -> x.setBeat(0, 10));
        Check.dueThrow(x, "10 pocket -1", RANGE, () -> x.setBeat(100, -1));
        Check.dueThrow(x, "10 pocket 50", RANGE, () -> x.setBeat(100, 50));
        Check.due("10 as it was", 90, () -> x.setBeat(100, 0));
    }

    private static void setBeatInBattle() {
        CypherRing x = Ring.inBattle(1, 1, 1);
        Check.dueThrow(x, "10 in a battle", STATE, () -> x.setBeat(100, 10));
        Check.dueThrow(x, "10 range ahead of that", RANGE, () -> x.setBeat(59, 10));
        Ring.chokeAll(x);
        Check.dueThrow(x, "10 in a battle that waits", STATE, () -> x.setBeat(100, 10));
        x.decide(0);
        Check.due("10 behind a battle", 90, () -> x.setBeat(100, 10));
        x.challenge(0, 1, 0);
        Check.due("10 while a challenge waits", 100, () -> x.setBeat(101, 10));
    }

    private static void barTime() {
        CypherRing x = new CypherRing();
        Check.due("11 at first, cut", 2666, x::barTime);
        x.setBeat(60, 0);
        Check.due("11 at 60", 4000, x::barTime);
        x.setBeat(180, 0);
        Check.due("11 at 180, cut", 1333, x::barTime);
        x.setBeat(179, 0);
        Check.due("11 at 179, cut", 1340, x::barTime);
    }
}
