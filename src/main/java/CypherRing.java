import java.util.Arrays;
import java.util.NoSuchElementException;

/** Words thrown in turn over a beat: words, accents, performers, battles, bars, judges, samples and a league. */
public final class CypherRing {
    private static final int MAX_WORDS = 24;
    private static final int MAX_SYLLABLES = 4;
    private static final int MAX_ONSET = 9;
    private static final int MAX_VOWEL = 7;
    private static final int VOWELS = 8;
    private static final int MAX_CODA = 9;
    private static final int MAX_LANGUAGE = 2;
    private static final int MAX_TOPIC = 9;
    private static final int REGIONS = 4;
    private static final int MAX_REGION = 3;
    private static final int SLANT_LIMIT = 6;

    private static final int MIN_TEMPO = 60;
    private static final int MAX_TEMPO = 180;
    private static final int MAX_POCKET = 49;
    private static final int FIRST_TEMPO = 90;
    private static final int FIRST_POCKET = 10;
    private static final int BAR_TIMES_TEMPO = 240000;
    private static final int BEAT = 100;
    private static final int BAR_PARTS = 400;
    private static final int SYLLABLE_PARTS = 25;

    private static final int MAX_PERFORMERS = 10;
    private static final int MAX_STYLE = 2;
    private static final int STYLES = 3;
    private static final int FIRST_RATING = 1000;
    private static final int FIRST_TIER = 1;
    private static final int LOWEST_TIER = 2;
    private static final int DODGES_A_TIER = 3;
    private static final int MAX_PURSE = 99999;

    private static final int MAX_ROUNDS = 3;
    private static final int MAX_TURN_BARS = 4;
    private static final int MAX_BARS = 24;
    private static final int MAX_BAR_WORDS = 16;
    private static final int MAX_BAR_SYLLABLES = 16;
    private static final long DRAW_FACTOR = 48271L;
    private static final long DRAW_MODULUS = 2147483647L;

    /* 512 calls close 255 bars at most, each behind a word, and say fewer than 512 words of 4 syllables. */
    private static final int MAX_KEPT_BARS = 256;
    private static final int MAX_KEPT_SYLLABLES = 2048;

    private static final int MAX_JUDGES = 5;
    private static final int CROWD = MAX_JUDGES;
    private static final int CROWD_ROUNDS = 2;
    private static final int CROWD_WEIGHTS = 1111;
    private static final int MAX_WEIGHTS = 9999;
    private static final int MAX_LEANING = 20;
    private static final int RHYMES = 0;
    private static final int LANDINGS = 1;
    private static final int ANSWERS = 2;
    private static final int CHAINS = 3;

    private static final int MAX_SAMPLES = 10;
    private static final int MAX_SOURCE = 9;
    private static final int SOURCES = 10;
    private static final int MAX_TENTHS = 99;
    private static final int MAX_LIKENESS = 100;
    private static final int FREE_USE = 500;

    private final Lexicon lexicon;
    private final League league;
    private final Challenge offer;
    private final Battle battle;
    private final Bars book;
    private final Memory memory;
    private final Jury jury;
    private final Samples samples;
    private int tempo;
    private int pocket;
    private int barLength;
    private long timePlayed;
    private long draw;

    public CypherRing() {
        lexicon = new Lexicon();
        league = new League();
        offer = new Challenge();
        battle = new Battle();
        book = new Bars();
        memory = new Memory();
        jury = new Jury();
        samples = new Samples();
        tempo = FIRST_TEMPO;
        pocket = FIRST_POCKET;
        barLength = BAR_TIMES_TEMPO / FIRST_TEMPO;
        draw = 1;
    }

    // ---- words and rhymes

    public int addSyllable(int onset, int vowel, int coda, boolean isStressed)
            throws IllegalArgumentException, IllegalStateException {
        requireRange(onset, 0, MAX_ONSET);
        requireRange(vowel, 0, MAX_VOWEL);
        requireRange(coda, 0, MAX_CODA);
        if (lexicon.draftLength() >= MAX_SYLLABLES) {
            throw new IllegalStateException("the word has 4 syllables");
        }
        return lexicon.append(onset, vowel, coda, isStressed);
    }

    public int clearSyllables() {
        return lexicon.dropDraft();
    }

    public int addWord(int language, int topic)
            throws IllegalArgumentException, UnsupportedOperationException, IllegalStateException {
        requireRange(language, 0, MAX_LANGUAGE);
        requireRange(topic, 0, MAX_TOPIC);
        if (!lexicon.isDraftStressed()) {
            throw new UnsupportedOperationException("no syllable is stressed");
        }
        if (lexicon.count >= MAX_WORDS) {
            throw new IllegalStateException("there are 24 words");
        }
        return lexicon.keepDraft(language, topic);
    }

    public int syllables(int word) throws IndexOutOfBoundsException {
        requireIndex(word, lexicon.count);
        return lexicon.length[word];
    }

    public int setAccent(int region, int vowel, int as) throws IllegalArgumentException {
        requireRange(region, 0, MAX_REGION);
        requireRange(vowel, 0, MAX_VOWEL);
        requireRange(as, 0, MAX_VOWEL);
        return lexicon.changeAccent(region, vowel, as);
    }

    public char rhyme(int word, int other, int region) throws IndexOutOfBoundsException, IllegalArgumentException {
        requireIndex(word, lexicon.count);
        requireIndex(other, lexicon.count);
        requireRange(region, 0, MAX_REGION);
        return lexicon.kindOf(word, other, region);
    }

    public int near(int word, int other, int region) throws IndexOutOfBoundsException, IllegalArgumentException {
        requireIndex(word, lexicon.count);
        requireIndex(other, lexicon.count);
        requireRange(region, 0, MAX_REGION);
        return lexicon.distance(word, other, region);
    }

    public int bestRhyme(int word, int region)
            throws IndexOutOfBoundsException, IllegalArgumentException, NoSuchElementException {
        requireIndex(word, lexicon.count);
        requireRange(region, 0, MAX_REGION);
        int best = lexicon.bestFor(word, region);
        if (best < 0) {
            throw new NoSuchElementException("no other word rhymes so");
        }
        return best;
    }

    public int setBeat(int tempo, int pocket) throws IllegalArgumentException, IllegalStateException {
        requireRange(tempo, MIN_TEMPO, MAX_TEMPO);
        requireRange(pocket, 0, MAX_POCKET);
        if (battle.on) {
            throw new IllegalStateException("a battle goes on");
        }
        int before = this.tempo;
        this.tempo = tempo;
        this.pocket = pocket;
        barLength = BAR_TIMES_TEMPO / tempo;
        return before;
    }

    public int barTime() {
        return barLength;
    }

    // ---- the league

    public int addPerformer(int style) throws IllegalArgumentException, IllegalStateException {
        requireRange(style, 0, MAX_STYLE);
        if (league.count >= MAX_PERFORMERS) {
            throw new IllegalStateException("there are 10 performers");
        }
        return league.add(style);
    }

    public int rating(int performer) throws IndexOutOfBoundsException {
        requireIndex(performer, league.count);
        return league.rating[performer];
    }

    public int tier(int performer) throws IndexOutOfBoundsException {
        requireIndex(performer, league.count);
        return league.tier[performer];
    }

    public int money(int performer) throws IndexOutOfBoundsException {
        requireIndex(performer, league.count);
        return league.money[performer];
    }

    public int challenge(int performer, int other, int purse)
            throws IndexOutOfBoundsException, IllegalArgumentException, UnsupportedOperationException {
        requireIndex(performer, league.count);
        requireIndex(other, league.count);
        if (performer == other) {
            throw new IllegalArgumentException("both are the same");
        }
        requireRange(purse, 0, MAX_PURSE);
        if (battle.on || Math.abs(league.tier[performer] - league.tier[other]) > 1) {
            throw new UnsupportedOperationException("a battle goes on, or the tiers are farther apart");
        }
        offer.make(performer, other, purse);
        return league.dodges[other];
    }

    public int refuse() throws UnsupportedOperationException {
        if (!offer.waits) {
            throw new UnsupportedOperationException("no challenge waits");
        }
        offer.waits = false;
        return league.dodge(offer.challenged);
    }

    public int begin(int rounds, int bars) throws IllegalArgumentException, UnsupportedOperationException {
        requireRange(rounds, 1, MAX_ROUNDS);
        requireRange(bars, 1, MAX_TURN_BARS);
        if (!offer.waits) {
            throw new UnsupportedOperationException("no challenge waits");
        }
        offer.waits = false;
        memory.keepAll(book);
        book.forgetAll();
        draw = draw * DRAW_FACTOR % DRAW_MODULUS;
        boolean isChallengedFirst = draw % 2 == 1;
        int first = isChallengedFirst ? offer.challenged : offer.challenger;
        int second = isChallengedFirst ? offer.challenger : offer.challenged;
        battle.start(first, second, rounds, bars);
        return first;
    }

    // ---- a battle

    public boolean isOn() {
        return battle.on;
    }

    public int barTopic(int topic)
            throws IllegalArgumentException, IllegalStateException, UnsupportedOperationException {
        requireRange(topic, 0, MAX_TOPIC);
        if (!battle.on) {
            throw new IllegalStateException("no battle goes on");
        }
        // The words of a turn that began anew are no longer in the book, so an empty book tells that none was said.
        if (battle.barred[topic] || battle.turn > 0 || book.words > 0) {
            throw new UnsupportedOperationException("it is barred, or a word was said, or a turn ended");
        }
        return battle.bar(topic);
    }

    public int side() throws IllegalStateException {
        requireTurn();
        return battle.turnSide();
    }

    public int round() throws IllegalStateException {
        requireTurn();
        return battle.turn / 2;
    }

    public int say(int word, int at) throws IndexOutOfBoundsException, IllegalArgumentException,
            IllegalStateException, UnsupportedOperationException {
        requireIndex(word, lexicon.count);
        requireRange(at, 0, BAR_PARTS - 1);
        requireTurn();
        int end = at + SYLLABLE_PARTS * lexicon.length[word];
        if (at < book.openEnd || end > BAR_PARTS) {
            throw new UnsupportedOperationException("it begins ahead of the end of the one before, or ends behind 400");
        }
        if (battle.barred[lexicon.topic[word]]) {
            endTurn();
            return -1;
        }
        return book.put(word, at, end);
    }

    public int closeBar() throws IllegalStateException, UnsupportedOperationException {
        requireTurn();
        if (book.openCount() == 0) {
            throw new UnsupportedOperationException("the bar has no words");
        }
        int side = battle.turnSide();
        int bar = book.close(battle.turn, lexicon);
        int said = book.wordSet(bar);
        book.landed[bar] = countLanding(bar);
        book.answered[bar] = Integer.bitCount(said & battle.said[1 - side]);
        book.heard[bar] = memory.holds(book, bar);
        battle.said[side] |= said;
        battle.turnBars++;
        creditFirstUser(bar, battle.performer[side]);
        timePlayed += barLength;
        if (battle.turnBars >= battle.barsATurn) {
            endTurn();
        }
        return bar;
    }

    public int choke() throws IllegalStateException {
        requireTurn();
        int had = battle.turnBars;
        endTurn();
        return had;
    }

    public int restart() throws IllegalStateException, UnsupportedOperationException {
        requireTurn();
        int side = battle.turnSide();
        if (battle.beganAnew[side] || battle.turnBars > 0) {
            throw new UnsupportedOperationException("this side did, or a bar of the turn is closed");
        }
        battle.beganAnew[side] = true;
        return book.dropOpen();
    }

    public int bars() {
        return book.closed;
    }

    public int wordAt(int bar, int index) throws IndexOutOfBoundsException, NoSuchElementException {
        requireIndex(bar, book.closed);
        if (index < 0 || index >= book.size(bar)) {
            throw new NoSuchElementException("the bar has no such word");
        }
        return book.word[book.start[bar] + index];
    }

    public int landings(int bar) throws IndexOutOfBoundsException {
        requireIndex(bar, book.closed);
        return book.landed[bar];
    }

    public int answers(int bar) throws IndexOutOfBoundsException {
        requireIndex(bar, book.closed);
        return book.answered[bar];
    }

    public int chain(int bar, int other, int region) throws IndexOutOfBoundsException, IllegalArgumentException {
        requireIndex(bar, book.closed);
        requireIndex(other, book.closed);
        requireRange(region, 0, MAX_REGION);
        return chainOf(bar, other, region);
    }

    public boolean wasHeard(int bar) throws IndexOutOfBoundsException {
        requireIndex(bar, book.closed);
        return book.heard[bar];
    }

    public int languages(int bar) throws IndexOutOfBoundsException {
        requireIndex(bar, book.closed);
        int set = 0;
        for (int i = book.start[bar]; i < book.start[bar + 1]; i++) {
            set |= 1 << lexicon.language[book.word[i]];
        }
        return Integer.bitCount(set);
    }

    public int firstUser(int word) throws IndexOutOfBoundsException, NoSuchElementException {
        requireIndex(word, lexicon.count);
        int user = lexicon.firstUser[word];
        if (user < 0) {
            throw new NoSuchElementException("nobody used the word");
        }
        return user;
    }

    public int read() throws NoSuchElementException {
        if (book.wordsRead >= book.closedWords()) {
            throw new NoSuchElementException("there is no next word by now");
        }
        int word = book.word[book.wordsRead];
        book.wordsRead++;
        return word;
    }

    // ---- cards and decisions

    public int addJudge(int weights, int leaning) throws IllegalArgumentException, IllegalStateException {
        requireRange(weights, 0, MAX_WEIGHTS);
        requireRange(leaning, -MAX_LEANING, MAX_LEANING);
        if (jury.count >= MAX_JUDGES) {
            throw new IllegalStateException("there are 5 judges");
        }
        return jury.add(weights, leaning);
    }

    public int marks(int round, int side, int what, int region)
            throws IllegalArgumentException, NoSuchElementException {
        requireNotNegative(round);
        requireRange(side, 0, 1);
        requireRange(what, RHYMES, CHAINS);
        requireRange(region, 0, MAX_REGION);
        requireRound(round);
        int turn = 2 * round + side;
        switch (what) {
            case RHYMES:
                return rhymeMarks(turn, region);
            case LANDINGS:
                return sumOfBars(book.landed, turn);
            case ANSWERS:
                return sumOfBars(book.answered, turn);
            default:
                return chainMarks(turn, region);
        }
    }

    public int card(int judge, int round, int region)
            throws IndexOutOfBoundsException, IllegalArgumentException, NoSuchElementException {
        requireIndex(judge, jury.count);
        requireNotNegative(round);
        requireRange(region, 0, MAX_REGION);
        requireRound(round);
        return cardOf(judge, round, region);
    }

    public char isFor(int judge, int region)
            throws IndexOutOfBoundsException, IllegalArgumentException, NoSuchElementException {
        requireIndex(judge, jury.count);
        requireRange(region, 0, MAX_REGION);
        requireBattle();
        return letterOf(leadBy(judge, region));
    }

    public char crowd(int region) throws IllegalArgumentException, NoSuchElementException {
        requireRange(region, 0, MAX_REGION);
        requireBattle();
        return letterOf(leadBy(CROWD, region));
    }

    public int decide(int region) throws IllegalArgumentException, IllegalStateException {
        requireRange(region, 0, MAX_REGION);
        if (!battle.on || battle.hasTurn()) {
            throw new IllegalStateException("no battle waits for the decision");
        }
        battle.on = false;
        int lead = leadBy(CROWD, region);
        for (int judge = 0; judge < jury.count; judge++) {
            lead += leadBy(judge, region);
        }
        int first = battle.performer[0];
        int second = battle.performer[1];
        if (lead == 0) {
            league.shareEvenly(first, second, offer.purse);
            return -1;
        }
        int winner = lead > 0 ? first : second;
        league.settle(winner, lead > 0 ? second : first, offer.purse);
        return winner;
    }

    // ---- samples and figures

    public int addSample(int source, int tenths, int likeness)
            throws IllegalArgumentException, IllegalStateException {
        requireRange(source, 0, MAX_SOURCE);
        requireRange(tenths, 1, MAX_TENTHS);
        requireRange(likeness, 0, MAX_LIKENESS);
        if (samples.count >= MAX_SAMPLES) {
            throw new IllegalStateException("there are 10 samples");
        }
        return samples.add(source, tenths * likeness);
    }

    public boolean needsClearing(int sample) throws IndexOutOfBoundsException {
        requireIndex(sample, samples.count);
        return samples.isOpen(sample);
    }

    public int clear(int sample, int performer) throws IndexOutOfBoundsException, UnsupportedOperationException {
        requireIndex(sample, samples.count);
        requireIndex(performer, league.count);
        if (!samples.isOpen(sample)) {
            throw new UnsupportedOperationException("it needs no clearing");
        }
        int cost = samples.settle(sample);
        league.money[performer] -= cost;
        return cost;
    }

    public int paid(int source) throws IllegalArgumentException {
        requireRange(source, 0, MAX_SOURCE);
        return samples.sourceMoney[source];
    }

    public long elapsed() {
        return timePlayed;
    }

    public long checksum() {
        long sum = 7;
        for (int i = 0; i < league.count; i++) {
            sum = 31 * sum + league.rating[i];
            sum = 31 * sum + league.tier[i];
            sum = 31 * sum + league.money[i];
        }
        for (int bar = 0; bar < book.closed; bar++) {
            sum = 31 * sum + book.size(bar);
            for (int i = book.start[bar]; i < book.start[bar + 1]; i++) {
                sum = 31 * sum + book.word[i];
            }
        }
        return sum;
    }

    public float landedShare() throws ArithmeticException {
        int all = book.closedWords();
        if (all == 0) {
            throw new ArithmeticException("no bar is closed");
        }
        int landed = 0;
        for (int bar = 0; bar < book.closed; bar++) {
            landed += book.landed[bar];
        }
        return (float) landed / (float) all;
    }

    public double meanRating() throws ArithmeticException {
        if (league.count == 0) {
            throw new ArithmeticException("there are no performers");
        }
        return (double) league.ratingSum() / (double) league.count;
    }

    public boolean isSound() {
        if (league.ratingSum() != FIRST_RATING * league.count) {
            return false;
        }
        for (int bar = 0; bar < book.closed; bar++) {
            if (!isBarSound(bar)) {
                return false;
            }
        }
        return true;
    }

    // ---- what must hold ahead of a call

    private static void requireRange(int value, int low, int high) {
        if (value < low || value > high) {
            throw new IllegalArgumentException("a number is out of range");
        }
    }

    /* The document names no highest round: one that is too high is missing in the battle, not out of range. */
    private static void requireNotNegative(int round) {
        if (round < 0) {
            throw new IllegalArgumentException("a round is below 0");
        }
    }

    private static void requireIndex(int index, int count) {
        if (index < 0 || index >= count) {
            throw new IndexOutOfBoundsException("there is none of that number");
        }
    }

    private void requireTurn() {
        if (!battle.hasTurn()) {
            throw new IllegalStateException("nobody has the turn");
        }
    }

    private void requireBattle() {
        if (battle.rounds == 0) {
            throw new NoSuchElementException("there was no battle");
        }
    }

    private void requireRound(int round) {
        if (round >= battle.rounds) {
            throw new NoSuchElementException("the last battle has fewer rounds, or there was none");
        }
    }

    // ---- bars

    private void endTurn() {
        book.dropOpen();
        battle.nextTurn();
    }

    private int countLanding(int bar) {
        int landed = 0;
        for (int i = book.start[bar]; i < book.start[bar + 1]; i++) {
            int ahead = (book.place[i] + SYLLABLE_PARTS * lexicon.lastStressed[book.word[i]]) % BEAT;
            if (Math.min(ahead, BEAT - ahead) <= pocket) {
                landed++;
            }
        }
        return landed;
    }

    private void creditFirstUser(int bar, int performer) {
        for (int i = book.start[bar]; i < book.start[bar + 1]; i++) {
            int word = book.word[i];
            if (lexicon.firstUser[word] < 0) {
                lexicon.firstUser[word] = performer;
            }
        }
    }

    private int chainOf(int bar, int other, int region) {
        int limit = Math.min(book.syllableCount(bar), book.syllableCount(other));
        int length = 0;
        while (length < limit && lexicon.sounding(region, book.vowelFromEnd(bar, length))
                == lexicon.sounding(region, book.vowelFromEnd(other, length))) {
            length++;
        }
        return length;
    }

    private boolean isBarSound(int bar) {
        int end = 0;
        for (int i = book.start[bar]; i < book.start[bar + 1]; i++) {
            int word = book.word[i];
            if (book.place[i] < end || lexicon.firstUser[word] < 0 || battle.barred[lexicon.topic[word]]) {
                return false;
            }
            end = book.place[i] + SYLLABLE_PARTS * lexicon.length[word];
        }
        return end <= BAR_PARTS;
    }

    // ---- cards

    private int rhymeMarks(int turn, int region) {
        int sum = 0;
        for (int bar = 1; bar < book.closed; bar++) {
            if (book.counts(bar - 1, turn) && book.counts(bar, turn)) {
                sum += Lexicon.rank(lexicon.kindOf(book.lastWord(bar - 1), book.lastWord(bar), region));
            }
        }
        return sum;
    }

    private int sumOfBars(int[] marksOfBars, int turn) {
        int sum = 0;
        for (int bar = 0; bar < book.closed; bar++) {
            if (book.counts(bar, turn)) {
                sum += marksOfBars[bar];
            }
        }
        return sum;
    }

    private int chainMarks(int turn, int region) {
        int longest = 0;
        for (int bar = 1; bar < book.closed; bar++) {
            if (book.counts(bar - 1, turn) && book.counts(bar, turn)) {
                longest = Math.max(longest, chainOf(bar - 1, bar, region));
            }
        }
        return longest;
    }

    private int cardOf(int judge, int round, int region) {
        int first = 2 * round;
        int second = first + 1;
        int weights = jury.weights[judge];
        int rhymes = rhymeMarks(first, region) - rhymeMarks(second, region);
        int landings = sumOfBars(book.landed, first) - sumOfBars(book.landed, second);
        int answers = sumOfBars(book.answered, first) - sumOfBars(book.answered, second);
        int chains = chainMarks(first, region) - chainMarks(second, region);
        return weights / 1000 * rhymes + weights / 100 % 10 * landings + weights / 10 % 10 * answers
                + weights % 10 * chains + jury.leaning[judge];
    }

    /* 1 if the judge, or the crowd, is for the first side, -1 if for the second one, 0 if for nobody. */
    private int leadBy(int judge, int region) {
        int rounds = judge == CROWD ? Math.min(battle.rounds, CROWD_ROUNDS) : battle.rounds;
        int roundsAhead = 0;
        int sum = 0;
        for (int round = 0; round < rounds; round++) {
            int points = cardOf(judge, round, region);
            roundsAhead += Integer.compare(points, 0);
            sum += points;
        }
        return Integer.compare(roundsAhead != 0 ? roundsAhead : sum, 0);
    }

    private static char letterOf(int lead) {
        if (lead == 0) {
            return '-';
        }
        return lead > 0 ? 'f' : 's';
    }

    /** The words, and how their vowels sound by regions. The word that is made lies behind the numbered ones. */
    private static final class Lexicon {
        private final int[] onset = new int[(MAX_WORDS + 1) * MAX_SYLLABLES];
        private final int[] vowel = new int[(MAX_WORDS + 1) * MAX_SYLLABLES];
        private final int[] coda = new int[(MAX_WORDS + 1) * MAX_SYLLABLES];
        private final int[] length = new int[MAX_WORDS + 1];
        private final int[] lastStressed = new int[MAX_WORDS + 1];
        private final int[] language = new int[MAX_WORDS];
        private final int[] topic = new int[MAX_WORDS];
        private final int[] firstUser = new int[MAX_WORDS];
        private final int[] accent = new int[REGIONS * VOWELS];
        private int count;

        Lexicon() {
            Arrays.fill(lastStressed, -1);
            Arrays.fill(firstUser, -1);
            for (int i = 0; i < REGIONS * VOWELS; i++) {
                accent[i] = i % VOWELS;
            }
        }

        int draftLength() {
            return length[count];
        }

        boolean isDraftStressed() {
            return lastStressed[count] >= 0;
        }

        int append(int newOnset, int newVowel, int newCoda, boolean isStressed) {
            int index = length[count];
            int i = count * MAX_SYLLABLES + index;
            onset[i] = newOnset;
            vowel[i] = newVowel;
            coda[i] = newCoda;
            if (isStressed) {
                lastStressed[count] = index;
            }
            length[count] = index + 1;
            return index + 1;
        }

        int dropDraft() {
            int had = length[count];
            length[count] = 0;
            lastStressed[count] = -1;
            return had;
        }

        int keepDraft(int newLanguage, int newTopic) {
            int word = count;
            language[word] = newLanguage;
            topic[word] = newTopic;
            count++;
            return word;
        }

        int changeAccent(int region, int of, int as) {
            int i = region * VOWELS + of;
            int before = accent[i];
            accent[i] = as;
            return before;
        }

        int sounding(int region, int of) {
            return accent[region * VOWELS + of];
        }

        /* One number for onset, vowel and coda as they were told. */
        int soundOf(int word, int syllable) {
            int i = word * MAX_SYLLABLES + syllable;
            return (onset[i] * VOWELS + vowel[i]) * (MAX_CODA + 1) + coda[i];
        }

        static int vowelOfSound(int sound) {
            return sound / (MAX_CODA + 1) % VOWELS;
        }

        int tailLength(int word) {
            return length[word] - lastStressed[word];
        }

        int endOf(int word) {
            return word * MAX_SYLLABLES + length[word];
        }

        boolean areIdentical(int word, int other, int region) {
            if (length[word] != length[other]) {
                return false;
            }
            for (int k = 0; k < length[word]; k++) {
                int i = word * MAX_SYLLABLES + k;
                int j = other * MAX_SYLLABLES + k;
                boolean areVowelsLike = sounding(region, vowel[i]) == sounding(region, vowel[j]);
                if (onset[i] != onset[j] || coda[i] != coda[j] || !areVowelsLike) {
                    return false;
                }
            }
            return true;
        }

        boolean areTailVowelsLike(int word, int other, int region) {
            int tail = tailLength(word);
            if (tail != tailLength(other)) {
                return false;
            }
            for (int back = 1; back <= tail; back++) {
                int i = endOf(word) - back;
                int j = endOf(other) - back;
                if (sounding(region, vowel[i]) != sounding(region, vowel[j])) {
                    return false;
                }
            }
            return true;
        }

        /* For tails with as many syllables. */
        boolean areTailConsonantsPerfect(int word, int other) {
            int tail = tailLength(word);
            for (int back = 1; back <= tail; back++) {
                int i = endOf(word) - back;
                int j = endOf(other) - back;
                boolean mustBeLike = back < tail;
                if (coda[i] != coda[j] || (onset[i] == onset[j]) != mustBeLike) {
                    return false;
                }
            }
            return true;
        }

        char kindOf(int word, int other, int region) {
            if (areIdentical(word, other, region)) {
                return 'i';
            }
            if (areTailVowelsLike(word, other, region)) {
                return areTailConsonantsPerfect(word, other) ? 'p' : 'v';
            }
            return distance(word, other, region) <= SLANT_LIMIT ? 's' : '-';
        }

        int distance(int word, int other, int region) {
            int shorter = Math.min(tailLength(word), tailLength(other));
            int sum = 4 * Math.abs(tailLength(word) - tailLength(other));
            for (int back = 1; back <= shorter; back++) {
                int i = endOf(word) - back;
                int j = endOf(other) - back;
                sum += 2 * Math.abs(sounding(region, vowel[i]) - sounding(region, vowel[j]));
                if (coda[i] != coda[j]) {
                    sum++;
                }
            }
            return sum;
        }

        static int rank(char kind) {
            if (kind == 'p') {
                return 3;
            }
            if (kind == 'v') {
                return 2;
            }
            return kind == 's' ? 1 : 0;
        }

        /* The other word that rhymes best, or -1. */
        int bestFor(int word, int region) {
            int best = -1;
            int bestRank = 0;
            int bestDistance = 0;
            for (int other = 0; other < count; other++) {
                int rank = other == word ? 0 : rank(kindOf(word, other, region));
                int distance = distance(word, other, region);
                if (rank > bestRank || rank > 0 && rank == bestRank && distance < bestDistance) {
                    best = other;
                    bestRank = rank;
                    bestDistance = distance;
                }
            }
            return best;
        }
    }

    /** The performers. */
    private static final class League {
        private final int[] style = new int[MAX_PERFORMERS];
        private final int[] rating = new int[MAX_PERFORMERS];
        private final int[] tier = new int[MAX_PERFORMERS];
        private final int[] money = new int[MAX_PERFORMERS];
        private final int[] dodges = new int[MAX_PERFORMERS];
        private int count;

        int add(int newStyle) {
            int performer = count;
            style[performer] = newStyle;
            rating[performer] = FIRST_RATING;
            tier[performer] = FIRST_TIER;
            count++;
            return performer;
        }

        int dodge(int performer) {
            dodges[performer]++;
            if (dodges[performer] % DODGES_A_TIER == 0 && tier[performer] < LOWEST_TIER) {
                tier[performer]++;
            }
            return dodges[performer];
        }

        int ratingSum() {
            int sum = 0;
            for (int i = 0; i < count; i++) {
                sum += rating[i];
            }
            return sum;
        }

        void shareEvenly(int performer, int other, int purse) {
            money[performer] += purse / 2;
            money[other] += purse / 2;
        }

        void settle(int winner, int loser, int purse) {
            int change = ratingChange(winner, loser);
            rating[winner] += change;
            rating[loser] -= change;
            money[winner] += purse;
            if (tier[loser] < tier[winner]) {
                int higher = tier[loser];
                tier[loser] = tier[winner];
                tier[winner] = higher;
            }
        }

        int ratingChange(int winner, int loser) {
            int change = 20 + (rating[loser] - rating[winner]) / 20;
            if (style[loser] == (style[winner] + 1) % STYLES) {
                change += 5;
            }
            return Math.max(1, Math.min(50, change));
        }
    }

    /** The challenge that waits, or the one that the last battle came from. */
    private static final class Challenge {
        private boolean waits;
        private int challenger;
        private int challenged;
        private int purse;

        void make(int from, int to, int newPurse) {
            waits = true;
            challenger = from;
            challenged = to;
            purse = newPurse;
        }
    }

    /** The last battle's sides and turns; it is on until it is decided. Turns count from 0 over all rounds. */
    private static final class Battle {
        private final int[] performer = new int[2];
        private final boolean[] beganAnew = new boolean[2];
        private final int[] said = new int[2];
        private final boolean[] barred = new boolean[MAX_TOPIC + 1];
        private int barredCount;
        private int rounds;
        private int barsATurn;
        private int turn;
        private int turnBars;
        private boolean on;

        void start(int first, int second, int newRounds, int bars) {
            performer[0] = first;
            performer[1] = second;
            for (int side = 0; side < 2; side++) {
                beganAnew[side] = false;
                said[side] = 0;
            }
            for (int topic = 0; topic <= MAX_TOPIC; topic++) {
                barred[topic] = false;
            }
            barredCount = 0;
            rounds = newRounds;
            barsATurn = bars;
            turn = 0;
            turnBars = 0;
            on = true;
        }

        boolean hasTurn() {
            return on && turn < 2 * rounds;
        }

        int turnSide() {
            return turn % 2;
        }

        void nextTurn() {
            turn++;
            turnBars = 0;
        }

        int bar(int topic) {
            barred[topic] = true;
            barredCount++;
            return barredCount;
        }
    }

    /** The bars of the last battle: the words of the closed ones in a row, those of the open one behind them. */
    private static final class Bars {
        private final int[] word = new int[MAX_BARS * MAX_BAR_WORDS];
        private final int[] place = new int[MAX_BARS * MAX_BAR_WORDS];
        private final int[] start = new int[MAX_BARS + 1];
        private final int[] sound = new int[MAX_BARS * MAX_BAR_SYLLABLES];
        private final int[] soundStart = new int[MAX_BARS + 1];
        private final int[] turn = new int[MAX_BARS];
        private final int[] landed = new int[MAX_BARS];
        private final int[] answered = new int[MAX_BARS];
        private final boolean[] heard = new boolean[MAX_BARS];
        private int closed;
        private int words;
        private int openEnd;
        private int wordsRead;

        void forgetAll() {
            closed = 0;
            words = 0;
            openEnd = 0;
            wordsRead = 0;
        }

        int closedWords() {
            return start[closed];
        }

        int openCount() {
            return words - start[closed];
        }

        int put(int newWord, int at, int end) {
            word[words] = newWord;
            place[words] = at;
            words++;
            openEnd = end;
            return openCount();
        }

        int dropOpen() {
            int gone = openCount();
            words = start[closed];
            openEnd = 0;
            return gone;
        }

        int close(int itsTurn, Lexicon lexicon) {
            int bar = closed;
            int end = soundStart[bar];
            for (int i = start[bar]; i < words; i++) {
                for (int k = 0; k < lexicon.length[word[i]]; k++) {
                    sound[end] = lexicon.soundOf(word[i], k);
                    end++;
                }
            }
            turn[bar] = itsTurn;
            closed++;
            start[closed] = words;
            soundStart[closed] = end;
            openEnd = 0;
            return bar;
        }

        int size(int bar) {
            return start[bar + 1] - start[bar];
        }

        int lastWord(int bar) {
            return word[start[bar + 1] - 1];
        }

        int wordSet(int bar) {
            int set = 0;
            for (int i = start[bar]; i < start[bar + 1]; i++) {
                set |= 1 << word[i];
            }
            return set;
        }

        int syllableCount(int bar) {
            return soundStart[bar + 1] - soundStart[bar];
        }

        int vowelFromEnd(int bar, int index) {
            return Lexicon.vowelOfSound(sound[soundStart[bar + 1] - 1 - index]);
        }

        /* Whether a bar counts for the marks of a turn. */
        boolean counts(int bar, int ofTurn) {
            return turn[bar] == ofTurn && !heard[bar];
        }
    }

    /** The sounds of all bars of earlier battles. */
    private static final class Memory {
        private final int[] sound = new int[MAX_KEPT_SYLLABLES];
        private final int[] start = new int[MAX_KEPT_BARS + 1];
        private int count;

        void keepAll(Bars bars) {
            for (int bar = 0; bar < bars.closed; bar++) {
                keep(bars, bar);
            }
        }

        void keep(Bars bars, int bar) {
            int length = bars.syllableCount(bar);
            // No 512 calls fill the rows; what goes beyond is free, but may not throw.
            if (count >= MAX_KEPT_BARS || start[count] + length > MAX_KEPT_SYLLABLES) {
                return;
            }
            System.arraycopy(bars.sound, bars.soundStart[bar], sound, start[count], length);
            start[count + 1] = start[count] + length;
            count++;
        }

        boolean holds(Bars bars, int bar) {
            for (int kept = 0; kept < count; kept++) {
                if (isLike(kept, bars, bar)) {
                    return true;
                }
            }
            return false;
        }

        boolean isLike(int kept, Bars bars, int bar) {
            int length = bars.syllableCount(bar);
            if (start[kept + 1] - start[kept] != length) {
                return false;
            }
            for (int k = 0; k < length; k++) {
                if (sound[start[kept] + k] != bars.sound[bars.soundStart[bar] + k]) {
                    return false;
                }
            }
            return true;
        }
    }

    /** The judges; behind them all the crowd, who leans to nobody. */
    private static final class Jury {
        private final int[] weights = new int[MAX_JUDGES + 1];
        private final int[] leaning = new int[MAX_JUDGES + 1];
        private int count;

        Jury() {
            weights[CROWD] = CROWD_WEIGHTS;
        }

        int add(int newWeights, int newLeaning) {
            int judge = count;
            weights[judge] = newWeights;
            leaning[judge] = newLeaning;
            count++;
            return judge;
        }
    }

    /** The samples, and what their sources were paid. */
    private static final class Samples {
        private final int[] source = new int[MAX_SAMPLES];
        private final int[] product = new int[MAX_SAMPLES];
        private final boolean[] cleared = new boolean[MAX_SAMPLES];
        private final int[] sourceMoney = new int[SOURCES];
        private int count;

        int add(int newSource, int newProduct) {
            int sample = count;
            source[sample] = newSource;
            product[sample] = newProduct;
            count++;
            return sample;
        }

        boolean isOpen(int sample) {
            return product[sample] > FREE_USE && !cleared[sample];
        }

        int settle(int sample) {
            int cost = product[sample] / 10;
            cleared[sample] = true;
            sourceMoney[source[sample]] += cost;
            return cost;
        }
    }
}
