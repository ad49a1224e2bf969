/** Short ways to bring a ring into a state that a test needs. */
final class Ring {
    private Ring() {
    }

    /** Adds a word of language 0 and topic 0; a syllable is told as onset, vowel, coda, and 1 if it is stressed. */
    static int word(Tape x, int... syllables) {
        return wordOf(x, 0, 0, syllables);
    }

    static int wordOf(Tape x, int language, int topic, int... syllables) {
        x.clearSyllables();
        for (int s : syllables) {
            x.addSyllable(s / 1000, s / 100 % 10, s / 10 % 10, s % 10 == 1);
        }
        return x.addWord(language, topic);
    }

    /** Words of one syllable, the onset and the vowel of each being its number, modulo 10 and 8. */
    static Tape withWords(int words) {
        Tape x = new Tape();
        for (int i = 0; i < words; i++) {
            word(x, i % 10 * 1000 + i % 8 * 100 + i / 10 * 10 + 1);
        }
        return x;
    }

    static Tape withPerformers(int... styles) {
        Tape x = new Tape();
        performers(x, styles);
        return x;
    }

    static void performers(Tape x, int... styles) {
        for (int style : styles) {
            x.addPerformer(style);
        }
    }

    /** Such words, two performers of style 0, and their first battle, in which 1, the challenged one, is first. */
    static Tape inBattle(int words, int rounds, int bars) {
        Tape x = withWords(words);
        performers(x, 0, 0);
        x.challenge(0, 1, 100);
        x.begin(rounds, bars);
        return x;
    }

    /** Says words one behind the other from the bar's begin on, each of one syllable, and closes the bar. */
    static int bar(Tape x, int... words) {
        for (int i = 0; i < words.length; i++) {
            x.say(words[i], 25 * i);
        }
        return x.closeBar();
    }

    static void chokeAll(Tape x) {
        for (int i = 0; i < 6 && Check.result(x::side) instanceof Integer; i++) {
            x.choke();
        }
    }

    /** Ends the turn that has been begun, the first side's landings in it being as many as told, the other's none. */
    private static void turnWithLandings(Tape x, int landings) {
        if (landings == 0) {
            x.choke();
            return;
        }
        for (int i = 0; i < landings; i++) {
            x.say(0, 100 * i);
        }
        x.closeBar();
    }

    /** A battle of rounds of one bar, in which landings alone tell: for each round those of both sides. */
    static Tape rounds(int... landings) {
        Tape x = new Tape();
        word(x, 1111);
        performers(x, 0, 0);
        x.challenge(0, 1, 0);
        x.begin(landings.length / 2, 1);
        for (int count : landings) {
            turnWithLandings(x, count);
        }
        return x;
    }

    /** Two performers, 1 being first, in a battle with a pocket of 0. */
    static Tape exactBattle(Tape x, int rounds, int bars) {
        performers(x, 0, 0);
        x.setBeat(90, 0);
        x.challenge(0, 1, 0);
        x.begin(rounds, bars);
        return x;
    }

    /** Words of which 1 rhymes perfectly with 0, 2 by vowels; 3 is slant to 2, and 4 to none of them. */
    static Tape withRhymes() {
        Tape x = new Tape();
        word(x, 1011);
        word(x, 2011);
        word(x, 2021);
        word(x, 2321);
        word(x, 2721);
        return x;
    }
}
