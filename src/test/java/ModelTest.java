/** Long runs of calls, right and wrong ones, each answer held against the model's. */
public final class ModelTest {
    private static final int RUNS = 1500;
    private static final int CALLS = 512;

    private final CypherRing x = new CypherRing();
    private final Model m = new Model();
    private final int run;
    private long seed;
    private int call;

    private ModelTest(int run) {
        this.run = run;
        seed = 7919L * run + 17;
    }

    public static void main(String[] args) {
        for (int run = 0; run < RUNS; run++) {
            new ModelTest(run).play();
        }
        Check.end();
    }

    /** A number from 0 to below the limit; always the same ones for the same run. */
    private int any(int limit) {
        seed = (seed * 25214903917L + 11) & ((1L << 48) - 1);
        return (int) ((seed >>> 20) % limit);
    }

    private void same(String what, Check.Call own, Check.Call model) {
        Check.due("run " + run + ", call " + call + ", " + what, String.valueOf(Check.result(model)), own);
        call++;
    }

    private void play() {
        int words = 2 + any(7);
        for (int i = 0; i < words; i++) {
            addWord();
        }
        int performers = 2 + any(3);
        for (int i = 0; i < performers; i++) {
            addPerformer();
        }
        while (call < CALLS - 8) {
            step();
        }
    }

    private void step() {
        int kind = any(100);
        if (kind < 55) {
            battleStep();
        } else if (kind < 65) {
            tellOfBars();
        } else if (kind < 75) {
            tellOfCards();
        } else if (kind < 83) {
            tellOfWords();
        } else if (kind < 90) {
            tellOfFigures();
        } else if (kind < 96) {
            addMore();
        } else {
            wrongOrRare();
        }
    }

    /** Mostly one of the numbers that there are, else one around them. */
    private int number(int count) {
        int way = any(30);
        if (way == 0) {
            return -1;
        }
        if (way == 1) {
            return count + any(2);
        }
        if (way == 2) {
            return any(2) == 0 ? Integer.MIN_VALUE : Integer.MAX_VALUE;
        }
        return any(Math.max(1, count));
    }

    private int words() {
        int count = 0;
        while (count < 24 && Check.result(wordCall(count)) instanceof Integer) {
            count++;
        }
        return count;
    }

    private Check.Call wordCall(int word) {
        return () -> m.syllables(word);
    }

    private int performers() {
        int count = 0;
        while (count < 10 && Check.result(performerCall(count)) instanceof Integer) {
            count++;
        }
        return count;
    }

    private Check.Call performerCall(int performer) {
        return () -> m.rating(performer);
    }

    private void addWord() {
        int syllables = 1 + any(3);
        for (int i = 0; i < syllables; i++) {
            addSyllable();
        }
        int language = number(3);
        int topic = number(10);
        same("addWord(" + language + ", " + topic + ")", () -> x.addWord(language, topic),
                () -> m.addWord(language, topic));
    }

    /** Mostly one of a few sounds, so that many words are like others. */
    private void addSyllable() {
        int onset = number(any(2) == 0 ? 2 : 10);
        int vowel = number(any(2) == 0 ? 3 : 8);
        int coda = number(any(2) == 0 ? 2 : 10);
        boolean isStressed = any(3) > 0;
        same("addSyllable(" + onset + ", " + vowel + ", " + coda + ", " + isStressed + ")",
                () -> x.addSyllable(onset, vowel, coda, isStressed),
                () -> m.addSyllable(onset, vowel, coda, isStressed));
    }

    private void addPerformer() {
        int style = number(3);
        same("addPerformer(" + style + ")", () -> x.addPerformer(style), () -> m.addPerformer(style));
    }

    private void addMore() {
        switch (any(7)) {
            case 0 -> addWord();
            case 1 -> addPerformer();
            case 2 -> same("clearSyllables()", x::clearSyllables, m::clearSyllables);
            case 3, 4 -> addJudge();
            case 5 -> addSample();
            default -> addSyllable();
        }
    }

    private void addJudge() {
        int weights = number(10000);
        int leaning = any(3) == 0 ? 0 : number(44) - 22;
        same("addJudge(" + weights + ", " + leaning + ")", () -> x.addJudge(weights, leaning),
                () -> m.addJudge(weights, leaning));
    }

    private void addSample() {
        int source = number(10);
        int tenths = number(100);
        int likeness = any(2) == 0 ? number(30) : number(101);
        same("addSample(" + source + ", " + tenths + ", " + likeness + ")",
                () -> x.addSample(source, tenths, likeness), () -> m.addSample(source, tenths, likeness));
    }

    private void battleStep() {
        if (!m.isOn()) {
            leagueStep();
        } else if (!(Check.result(m::side) instanceof Integer)) {
            decideStep();
        } else {
            turnStep();
        }
    }

    private void leagueStep() {
        int kind = any(12);
        if (kind < 5) {
            challenge();
        } else if (kind < 6) {
            same("refuse()", x::refuse, m::refuse);
        } else if (kind < 7) {
            int tempo = 58 + any(124);
            int pocket = number(50);
            same("setBeat(" + tempo + ", " + pocket + ")", () -> x.setBeat(tempo, pocket),
                    () -> m.setBeat(tempo, pocket));
        } else {
            int rounds = 1 + number(3);
            int bars = 1 + number(4);
            same("begin(" + rounds + ", " + bars + ")", () -> x.begin(rounds, bars), () -> m.begin(rounds, bars));
        }
    }

    private void challenge() {
        int count = performers();
        int performer = number(count);
        int other = number(count);
        int purse = any(10) == 0 ? number(100000) : any(300);
        same("challenge(" + performer + ", " + other + ", " + purse + ")",
                () -> x.challenge(performer, other, purse), () -> m.challenge(performer, other, purse));
    }

    private void decideStep() {
        int region = number(4);
        if (any(3) > 0) {
            same("decide(" + region + ")", () -> x.decide(region), () -> m.decide(region));
        } else {
            turnStep();
        }
    }

    private void turnStep() {
        int kind = any(40);
        if (kind < 22) {
            say();
        } else if (kind < 33) {
            same("closeBar()", x::closeBar, m::closeBar);
        } else if (kind < 35) {
            same("choke()", x::choke, m::choke);
        } else if (kind < 37) {
            same("restart()", x::restart, m::restart);
        } else {
            int topic = number(10);
            same("barTopic(" + topic + ")", () -> x.barTopic(topic), () -> m.barTopic(topic));
        }
    }

    private void say() {
        int word = number(words());
        int at = any(4) == 0 ? number(402) : 25 * any(16) + any(3) * 5;
        same("say(" + word + ", " + at + ")", () -> x.say(word, at), () -> m.say(word, at));
    }

    private void tellOfBars() {
        int bar = number(m.bars());
        int other = number(m.bars());
        int region = number(4);
        int index = number(4);
        same("bars()", x::bars, m::bars);
        switch (any(7)) {
            case 0 -> same("wordAt(" + bar + ", " + index + ")", () -> x.wordAt(bar, index),
                    () -> m.wordAt(bar, index));
            case 1 -> same("landings(" + bar + ")", () -> x.landings(bar), () -> m.landings(bar));
            case 2 -> same("answers(" + bar + ")", () -> x.answers(bar), () -> m.answers(bar));
            case 3 -> same("chain(" + bar + ", " + other + ", " + region + ")", () -> x.chain(bar, other, region),
                    () -> m.chain(bar, other, region));
            case 4 -> same("wasHeard(" + bar + ")", () -> x.wasHeard(bar), () -> m.wasHeard(bar));
            case 5 -> same("languages(" + bar + ")", () -> x.languages(bar), () -> m.languages(bar));
            default -> same("read()", x::read, m::read);
        }
    }

    private void tellOfCards() {
        int judge = number(2);
        int round = number(2);
        int side = number(2);
        int what = number(4);
        int region = number(4);
        switch (any(5)) {
            case 0, 1 -> same("marks(" + round + ", " + side + ", " + what + ", " + region + ")",
                    () -> x.marks(round, side, what, region), () -> m.marks(round, side, what, region));
            case 2 -> same("card(" + judge + ", " + round + ", " + region + ")", () -> x.card(judge, round, region),
                    () -> m.card(judge, round, region));
            case 3 -> same("isFor(" + judge + ", " + region + ")", () -> x.isFor(judge, region),
                    () -> m.isFor(judge, region));
            default -> same("crowd(" + region + ")", () -> x.crowd(region), () -> m.crowd(region));
        }
    }

    private void tellOfWords() {
        int word = number(words());
        int other = number(words());
        int region = number(4);
        switch (any(6)) {
            case 0 -> same("syllables(" + word + ")", () -> x.syllables(word), () -> m.syllables(word));
            case 1 -> same("rhyme(" + word + ", " + other + ", " + region + ")", () -> x.rhyme(word, other, region),
                    () -> m.rhyme(word, other, region));
            case 2 -> same("near(" + word + ", " + other + ", " + region + ")", () -> x.near(word, other, region),
                    () -> m.near(word, other, region));
            case 3 -> same("bestRhyme(" + word + ", " + region + ")", () -> x.bestRhyme(word, region),
                    () -> m.bestRhyme(word, region));
            case 4 -> same("firstUser(" + word + ")", () -> x.firstUser(word), () -> m.firstUser(word));
            default -> setAccent(region);
        }
    }

    private void setAccent(int region) {
        int vowel = number(8);
        int as = number(8);
        same("setAccent(" + region + ", " + vowel + ", " + as + ")", () -> x.setAccent(region, vowel, as),
                () -> m.setAccent(region, vowel, as));
    }

    private void tellOfFigures() {
        int performer = number(performers());
        switch (any(9)) {
            case 0 -> same("rating(" + performer + ")", () -> x.rating(performer), () -> m.rating(performer));
            case 1 -> same("tier(" + performer + ")", () -> x.tier(performer), () -> m.tier(performer));
            case 2 -> same("money(" + performer + ")", () -> x.money(performer), () -> m.money(performer));
            case 3 -> same("checksum()", x::checksum, m::checksum);
            case 4 -> same("landedShare()", x::landedShare, m::landedShare);
            case 5 -> same("meanRating()", x::meanRating, m::meanRating);
            case 6 -> same("isSound()", x::isSound, m::isSound);
            case 7 -> same("elapsed()", x::elapsed, m::elapsed);
            default -> tellOfSamples(performer);
        }
    }

    private void tellOfSamples(int performer) {
        int sample = number(3);
        same("needsClearing(" + sample + ")", () -> x.needsClearing(sample), () -> m.needsClearing(sample));
        same("clear(" + sample + ", " + performer + ")", () -> x.clear(sample, performer),
                () -> m.clear(sample, performer));
        int source = number(10);
        same("paid(" + source + ")", () -> x.paid(source), () -> m.paid(source));
    }

    /** Calls that are seldom right in the state that the ring is in. */
    private void wrongOrRare() {
        switch (any(11)) {
            case 0 -> challenge();
            case 1 -> same("refuse()", x::refuse, m::refuse);
            case 2 -> same("begin(1, 2)", () -> x.begin(1, 2), () -> m.begin(1, 2));
            case 3 -> same("setBeat(100, 7)", () -> x.setBeat(100, 7), () -> m.setBeat(100, 7));
            case 4 -> same("decide(0)", () -> x.decide(0), () -> m.decide(0));
            case 5 -> turnStep();
            case 6 -> same("isOn()", x::isOn, m::isOn);
            case 7 -> same("side()", x::side, m::side);
            case 8 -> same("round()", x::round, m::round);
            case 9 -> same("barTime()", x::barTime, m::barTime);
            default -> same("barTopic(3)", () -> x.barTopic(3), () -> m.barTopic(3));
        }
    }
}
