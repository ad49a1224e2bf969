/** Short ways to bring a ring into a state that a test needs. */
final class Ring {
    private Ring() {
    }

    /** Adds a word of language 0 and topic 0; a syllable is told as onset, vowel, coda, and 1 if it is stressed. */
    static int word(CypherRing x, int... syllables) {
        return wordOf(x, 0, 0, syllables);
    }

    static int wordOf(CypherRing x, int language, int topic, int... syllables) {
        x.clearSyllables();
        for (int s : syllables) {
            x.addSyllable(s / 1000, s / 100 % 10, s / 10 % 10, s % 10 == 1);
        }
        return x.addWord(language, topic);
    }

    /** Words of one syllable, the onset and the vowel of each being its number, modulo 10 and 8. */
    static CypherRing withWords(int words) {
        CypherRing x = new CypherRing();
        for (int i = 0; i < words; i++) {
            word(x, i % 10 * 1000 + i % 8 * 100 + i / 10 * 10 + 1);
        }
        return x;
    }

    static CypherRing withPerformers(int... styles) {
        CypherRing x = new CypherRing();
        performers(x, styles);
        return x;
    }

    static void performers(CypherRing x, int... styles) {
        for (int style : styles) {
            x.addPerformer(style);
        }
    }

    /** Such words, two performers of style 0, and their first battle, in which 1, the challenged one, is first. */
    static CypherRing inBattle(int words, int rounds, int bars) {
        CypherRing x = withWords(words);
        performers(x, 0, 0);
        x.challenge(0, 1, 100);
        x.begin(rounds, bars);
        return x;
    }

    /** Says words one behind the other from the bar's begin on, each of one syllable, and closes the bar. */
    static int bar(CypherRing x, int... words) {
        for (int i = 0; i < words.length; i++) {
            x.say(words[i], 25 * i);
        }
        return x.closeBar();
    }

    static void chokeAll(CypherRing x) {
        for (int i = 0; i < 6 && Check.result(x::side) instanceof Integer; i++) {
            x.choke();
        }
    }

    /** All that a ring tells without being changed by it. */
    static String told(CypherRing x) {
        StringBuilder all = new StringBuilder();
        tellWords(x, all);
        tellLeague(x, all);
        tellBattle(x, all);
        tellCards(x, all);
        tellFigures(x, all);
        return all.toString();
    }

    private static void tell(StringBuilder all, String what, Check.Call call) {
        all.append(what).append('=').append(Check.result(call)).append('\n');
    }

    private static void tellWords(CypherRing x, StringBuilder all) {
        tell(all, "barTime", x::barTime);
        for (int w = -1; w < 25; w++) {
            int word = w;
            tell(all, "syllables " + word, () -> x.syllables(word));
            tell(all, "firstUser " + word, () -> x.firstUser(word));
            for (int r = -1; r < 5; r++) {
                int region = r;
                tell(all, "bestRhyme " + word + " " + region, () -> x.bestRhyme(word, region));
                tell(all, "rhyme 0 " + word + " " + region, () -> x.rhyme(0, word, region));
                tell(all, "near 0 " + word + " " + region, () -> x.near(0, word, region));
            }
        }
    }

    private static void tellLeague(CypherRing x, StringBuilder all) {
        for (int p = -1; p < 11; p++) {
            int performer = p;
            tell(all, "rating " + performer, () -> x.rating(performer));
            tell(all, "tier " + performer, () -> x.tier(performer));
            tell(all, "money " + performer, () -> x.money(performer));
        }
    }

    private static void tellBattle(CypherRing x, StringBuilder all) {
        tell(all, "isOn", x::isOn);
        tell(all, "side", x::side);
        tell(all, "round", x::round);
        tell(all, "bars", x::bars);
        for (int b = -1; b < 25; b++) {
            int bar = b;
            tell(all, "landings " + bar, () -> x.landings(bar));
            tell(all, "answers " + bar, () -> x.answers(bar));
            tell(all, "wasHeard " + bar, () -> x.wasHeard(bar));
            tell(all, "languages " + bar, () -> x.languages(bar));
            tell(all, "chain 0 " + bar, () -> x.chain(0, bar, 0));
            for (int i = -1; i < 17; i++) {
                int index = i;
                tell(all, "wordAt " + bar + " " + index, () -> x.wordAt(bar, index));
            }
        }
    }

    private static void tellCards(CypherRing x, StringBuilder all) {
        for (int r = 0; r < 4; r++) {
            int region = r;
            tell(all, "crowd " + region, () -> x.crowd(region));
            for (int j = -1; j < 6; j++) {
                int judge = j;
                tell(all, "isFor " + judge + " " + region, () -> x.isFor(judge, region));
                for (int n = 0; n < 4; n++) {
                    int round = n;
                    tell(all, "card " + judge + " " + round, () -> x.card(judge, round, region));
                    tell(all, "marks " + round, () -> x.marks(round, 0, 0, region));
                }
            }
        }
    }

    private static void tellFigures(CypherRing x, StringBuilder all) {
        for (int n = -1; n < 11; n++) {
            int number = n;
            tell(all, "needsClearing " + number, () -> x.needsClearing(number));
            tell(all, "paid " + number, () -> x.paid(number));
        }
        tell(all, "elapsed", x::elapsed);
        tell(all, "checksum", x::checksum);
        tell(all, "landedShare", x::landedShare);
        tell(all, "meanRating", x::meanRating);
        tell(all, "isSound", x::isSound);
    }
}
