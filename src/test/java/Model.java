import java.util.ArrayList;
import java.util.Collections;
import java.util.LinkedHashSet;
import java.util.List;
import java.util.NoSuchElementException;
import java.util.Set;
import java.util.stream.Collectors;

/**
 * The document told once more in the plainest way, with the whole Java library: it keeps all bars of all battles, and
 * counts each answer anew from them. ModelTest holds the class against it.
 */
final class Model {
    record Syllable(int onset, int vowel, int coda, boolean isStressed) {
        String sound() {
            return onset + "." + vowel + "." + coda;
        }
    }

    record Word(List<Syllable> syllables, int language, int topic) {
        int stressedAt() {
            int last = -1;
            for (int i = 0; i < syllables.size(); i++) {
                last = syllables.get(i).isStressed() ? i : last;
            }
            return last;
        }

        List<Syllable> tail() {
            return syllables.subList(stressedAt(), syllables.size());
        }
    }

    record Said(int word, int at) {
    }

    record Bar(int battle, int turn, int performer, int pocket, int tempo, List<Said> said) {
        int side() {
            return turn % 2;
        }
    }

    record Judge(int rhymes, int landings, int answers, int chains, int leaning) {
    }

    private static final class Performer {
        int style;
        int rating = 1000;
        int tier = 1;
        int money;
        int dodges;
    }

    private static final class Sample {
        int source;
        int product;
        boolean isCleared;
    }

    private final List<Syllable> made = new ArrayList<>();
    private final List<Word> words = new ArrayList<>();
    private final int[][] accents = new int[4][8];
    private final List<Performer> performers = new ArrayList<>();
    private final List<Judge> judges = new ArrayList<>();
    private final List<Sample> samples = new ArrayList<>();
    private final int[] paid = new int[10];
    private final List<Bar> allBars = new ArrayList<>();
    private final List<Said> open = new ArrayList<>();
    private final Set<Integer> barred = new LinkedHashSet<>();
    private final Set<Integer> begunAnew = new LinkedHashSet<>();
    private int tempo = 90;
    private int pocket = 10;
    private long z = 1;
    private int[] waiting;
    private int battle;
    private boolean isGoing;
    private int[] sides;
    private int purse;
    private int rounds;
    private int barsOfTurns;
    private int turn;
    private int read;

    Model() {
        for (int[] accent : accents) {
            for (int vowel = 0; vowel < 8; vowel++) {
                accent[vowel] = vowel;
            }
        }
    }

    private static void range(boolean isRight) {
        if (!isRight) {
            throw new IllegalArgumentException();
        }
    }

    private static void state(boolean isRight) {
        if (!isRight) {
            throw new IllegalStateException();
        }
    }

    private static void possible(boolean isRight) {
        if (!isRight) {
            throw new UnsupportedOperationException();
        }
    }

    private static void exists(boolean isRight) {
        if (!isRight) {
            throw new NoSuchElementException();
        }
    }

    private static void index(int i, List<?> list) {
        if (i < 0 || i >= list.size()) {
            throw new IndexOutOfBoundsException();
        }
    }

    private static boolean in(int value, int low, int high) {
        return low <= value && value <= high;
    }

    private List<Bar> lastBars() {
        return allBars.stream().filter(b -> b.battle() == battle).collect(Collectors.toList());
    }

    private List<Bar> turnBars(int ofTurn) {
        return lastBars().stream().filter(b -> b.turn() == ofTurn).collect(Collectors.toList());
    }

    private boolean hasTurn() {
        return isGoing && turn < 2 * rounds;
    }

    int addSyllable(int onset, int vowel, int coda, boolean isStressed) {
        range(in(onset, 0, 9) && in(vowel, 0, 7) && in(coda, 0, 9));
        state(made.size() < 4);
        made.add(new Syllable(onset, vowel, coda, isStressed));
        return made.size();
    }

    int clearSyllables() {
        int had = made.size();
        made.clear();
        return had;
    }

    int addWord(int language, int topic) {
        range(in(language, 0, 2) && in(topic, 0, 9));
        possible(made.stream().anyMatch(Syllable::isStressed));
        state(words.size() < 24);
        words.add(new Word(List.copyOf(made), language, topic));
        made.clear();
        return words.size() - 1;
    }

    int syllables(int word) {
        index(word, words);
        return words.get(word).syllables().size();
    }

    int setAccent(int region, int vowel, int as) {
        range(in(region, 0, 3) && in(vowel, 0, 7) && in(as, 0, 7));
        int before = accents[region][vowel];
        accents[region][vowel] = as;
        return before;
    }

    private List<Integer> vowels(List<Syllable> of, int region) {
        return of.stream().map(s -> accents[region][s.vowel()]).collect(Collectors.toList());
    }

    private static List<Integer> codas(List<Syllable> of) {
        return of.stream().map(Syllable::coda).collect(Collectors.toList());
    }

    private static List<Integer> onsets(List<Syllable> of) {
        return of.stream().map(Syllable::onset).collect(Collectors.toList());
    }

    private boolean areLike(List<Syllable> a, List<Syllable> b, int region) {
        return vowels(a, region).equals(vowels(b, region)) && codas(a).equals(codas(b));
    }

    char rhyme(int word, int other, int region) {
        index(word, words);
        index(other, words);
        range(in(region, 0, 3));
        List<Syllable> a = words.get(word).syllables();
        List<Syllable> b = words.get(other).syllables();
        if (areLike(a, b, region) && onsets(a).equals(onsets(b))) {
            return 'i';
        }
        List<Syllable> tail = words.get(word).tail();
        List<Syllable> otherTail = words.get(other).tail();
        if (areLike(tail, otherTail, region) && tail.get(0).onset() != otherTail.get(0).onset()
                && onsets(tail.subList(1, tail.size())).equals(onsets(otherTail.subList(1, otherTail.size())))) {
            return 'p';
        }
        if (vowels(tail, region).equals(vowels(otherTail, region))) {
            return 'v';
        }
        return near(word, other, region) <= 6 ? 's' : '-';
    }

    int near(int word, int other, int region) {
        index(word, words);
        index(other, words);
        range(in(region, 0, 3));
        List<Syllable> a = new ArrayList<>(words.get(word).tail());
        List<Syllable> b = new ArrayList<>(words.get(other).tail());
        Collections.reverse(a);
        Collections.reverse(b);
        int sum = 0;
        for (int i = 0; i < Math.max(a.size(), b.size()); i++) {
            if (i >= a.size() || i >= b.size()) {
                sum += 4;
                continue;
            }
            sum += 2 * Math.abs(accents[region][a.get(i).vowel()] - accents[region][b.get(i).vowel()]);
            sum += a.get(i).coda() == b.get(i).coda() ? 0 : 1;
        }
        return sum;
    }

    int bestRhyme(int word, int region) {
        index(word, words);
        range(in(region, 0, 3));
        int best = -1;
        int bestKey = Integer.MAX_VALUE;
        for (int other = 0; other < words.size(); other++) {
            int place = "pvs".indexOf(rhyme(word, other, region));
            int key = place * 10000 + near(word, other, region) * 100 + other;
            if (other != word && place >= 0 && key < bestKey) {
                best = other;
                bestKey = key;
            }
        }
        exists(best >= 0);
        return best;
    }

    int setBeat(int newTempo, int newPocket) {
        range(in(newTempo, 60, 180) && in(newPocket, 0, 49));
        state(!isGoing);
        int before = tempo;
        tempo = newTempo;
        pocket = newPocket;
        return before;
    }

    int barTime() {
        return 240000 / tempo;
    }

    int addPerformer(int style) {
        range(in(style, 0, 2));
        state(performers.size() < 10);
        Performer added = new Performer();
        added.style = style;
        performers.add(added);
        return performers.size() - 1;
    }

    int rating(int performer) {
        index(performer, performers);
        return performers.get(performer).rating;
    }

    int tier(int performer) {
        index(performer, performers);
        return performers.get(performer).tier;
    }

    int money(int performer) {
        index(performer, performers);
        return performers.get(performer).money;
    }

    int challenge(int performer, int other, int newPurse) {
        index(performer, performers);
        index(other, performers);
        range(performer != other && in(newPurse, 0, 99999));
        possible(!isGoing && Math.abs(tier(performer) - tier(other)) <= 1);
        waiting = new int[] {performer, other, newPurse};
        return performers.get(other).dodges;
    }

    int refuse() {
        possible(waiting != null);
        Performer who = performers.get(waiting[1]);
        waiting = null;
        who.dodges++;
        if (who.dodges % 3 == 0) {
            who.tier = Math.min(2, who.tier + 1);
        }
        return who.dodges;
    }

    int begin(int newRounds, int bars) {
        range(in(newRounds, 1, 3) && in(bars, 1, 4));
        possible(waiting != null);
        z = z * 48271 % 2147483647;
        sides = z % 2 == 1 ? new int[] {waiting[1], waiting[0]} : new int[] {waiting[0], waiting[1]};
        purse = waiting[2];
        waiting = null;
        battle++;
        isGoing = true;
        rounds = newRounds;
        barsOfTurns = bars;
        turn = 0;
        read = 0;
        barred.clear();
        begunAnew.clear();
        return sides[0];
    }

    boolean isOn() {
        return isGoing;
    }

    int barTopic(int topic) {
        range(in(topic, 0, 9));
        state(isGoing);
        possible(!barred.contains(topic) && turn == 0 && open.isEmpty() && lastBars().isEmpty());
        barred.add(topic);
        return barred.size();
    }

    int side() {
        state(hasTurn());
        return turn % 2;
    }

    int round() {
        state(hasTurn());
        return turn / 2;
    }

    int say(int word, int at) {
        index(word, words);
        range(in(at, 0, 399));
        state(hasTurn());
        int end = 0;
        for (Said said : open) {
            end = said.at() + 25 * syllables(said.word());
        }
        possible(at >= end && at + 25 * syllables(word) <= 400);
        if (barred.contains(words.get(word).topic())) {
            open.clear();
            turn++;
            return -1;
        }
        open.add(new Said(word, at));
        return open.size();
    }

    int closeBar() {
        state(hasTurn());
        possible(!open.isEmpty());
        allBars.add(new Bar(battle, turn, sides[turn % 2], pocket, tempo, List.copyOf(open)));
        open.clear();
        if (turnBars(turn).size() == barsOfTurns) {
            turn++;
        }
        return lastBars().size() - 1;
    }

    int choke() {
        state(hasTurn());
        int had = turnBars(turn).size();
        open.clear();
        turn++;
        return had;
    }

    int restart() {
        state(hasTurn());
        possible(!begunAnew.contains(turn % 2) && turnBars(turn).isEmpty());
        begunAnew.add(turn % 2);
        int gone = open.size();
        open.clear();
        return gone;
    }

    int bars() {
        return lastBars().size();
    }

    private Bar bar(int number) {
        index(number, lastBars());
        return lastBars().get(number);
    }

    int wordAt(int bar, int index) {
        List<Said> said = bar(bar).said();
        exists(index >= 0 && index < said.size());
        return said.get(index).word();
    }

    int landings(int bar) {
        Bar of = bar(bar);
        int landed = 0;
        for (Said said : of.said()) {
            int begin = said.at() + 25 * words.get(said.word()).stressedAt();
            boolean lands = false;
            for (int beat = 0; beat <= 400; beat += 100) {
                lands |= Math.abs(begin - beat) <= of.pocket();
            }
            landed += lands ? 1 : 0;
        }
        return landed;
    }

    private static Set<Integer> wordsOf(Bar bar) {
        return bar.said().stream().map(Said::word).collect(Collectors.toSet());
    }

    int answers(int bar) {
        Bar of = bar(bar);
        Set<Integer> others = new LinkedHashSet<>();
        for (Bar ahead : lastBars().subList(0, bar)) {
            if (ahead.side() != of.side()) {
                others.addAll(wordsOf(ahead));
            }
        }
        others.retainAll(wordsOf(of));
        return others.size();
    }

    private List<Syllable> syllablesOf(Bar bar) {
        List<Syllable> all = new ArrayList<>();
        for (Said said : bar.said()) {
            all.addAll(words.get(said.word()).syllables());
        }
        return all;
    }

    int chain(int bar, int other, int region) {
        List<Syllable> own = syllablesOf(bar(bar));
        List<Syllable> others = syllablesOf(bar(other));
        range(in(region, 0, 3));
        List<Integer> a = vowels(own, region);
        List<Integer> b = vowels(others, region);
        int length = 0;
        while (length < a.size() && length < b.size()
                && a.get(a.size() - 1 - length).equals(b.get(b.size() - 1 - length))) {
            length++;
        }
        return length;
    }

    private String soundOf(Bar bar) {
        return syllablesOf(bar).stream().map(Syllable::sound).collect(Collectors.joining(" "));
    }

    boolean wasHeard(int bar) {
        Bar of = bar(bar);
        return allBars.stream().anyMatch(b -> b.battle() < battle && soundOf(b).equals(soundOf(of)));
    }

    int languages(int bar) {
        return (int) bar(bar).said().stream().map(s -> words.get(s.word()).language()).distinct().count();
    }

    int firstUser(int word) {
        index(word, words);
        for (Bar bar : allBars) {
            if (wordsOf(bar).contains(word)) {
                return bar.performer();
            }
        }
        throw new NoSuchElementException();
    }

    int read() {
        List<Said> all = lastBars().stream().flatMap(b -> b.said().stream()).collect(Collectors.toList());
        exists(read < all.size());
        return all.get(read++).word();
    }

    int addJudge(int weights, int leaning) {
        range(in(weights, 0, 9999) && in(leaning, -20, 20));
        state(judges.size() < 5);
        String digits = String.format("%04d", weights);
        judges.add(new Judge(digits.charAt(0) - '0', digits.charAt(1) - '0', digits.charAt(2) - '0',
                digits.charAt(3) - '0', leaning));
        return judges.size() - 1;
    }

    int marks(int round, int side, int what, int region) {
        range(round >= 0 && in(side, 0, 1) && in(what, 0, 3) && in(region, 0, 3));
        exists(battle > 0 && round < rounds);
        List<Bar> last = lastBars();
        int sum = 0;
        int longest = 0;
        for (int i = 0; i < last.size(); i++) {
            if (last.get(i).turn() != 2 * round + side || wasHeard(i)) {
                continue;
            }
            sum += what == 1 ? landings(i) : 0;
            sum += what == 2 ? answers(i) : 0;
            if (i == 0 || last.get(i - 1).turn() != 2 * round + side || wasHeard(i - 1)) {
                continue;
            }
            int kind = "-svp".indexOf(rhyme(end(i - 1), end(i), region));
            sum += what == 0 ? Math.max(0, kind) : 0;
            longest = Math.max(longest, chain(i - 1, i, region));
        }
        return what == 3 ? longest : sum;
    }

    private int end(int bar) {
        List<Said> said = bar(bar).said();
        return said.get(said.size() - 1).word();
    }

    private int cardBy(Judge judge, int round, int region) {
        int[] weights = {judge.rhymes(), judge.landings(), judge.answers(), judge.chains()};
        int sum = judge.leaning();
        for (int what = 0; what < 4; what++) {
            sum += weights[what] * marks(round, 0, what, region);
            sum -= weights[what] * marks(round, 1, what, region);
        }
        return sum;
    }

    int card(int judge, int round, int region) {
        index(judge, judges);
        range(round >= 0 && in(region, 0, 3));
        exists(battle > 0 && round < rounds);
        return cardBy(judges.get(judge), round, region);
    }

    private char isForBy(Judge judge, int limit, int region) {
        int first = 0;
        int second = 0;
        int sum = 0;
        for (int round = 0; round < limit; round++) {
            int card = cardBy(judge, round, region);
            first += card > 0 ? 1 : 0;
            second += card < 0 ? 1 : 0;
            sum += card;
        }
        if (first != second) {
            return first > second ? 'f' : 's';
        }
        return sum == 0 ? '-' : sum > 0 ? 'f' : 's';
    }

    char isFor(int judge, int region) {
        index(judge, judges);
        range(in(region, 0, 3));
        exists(battle > 0);
        return isForBy(judges.get(judge), rounds, region);
    }

    char crowd(int region) {
        range(in(region, 0, 3));
        exists(battle > 0);
        return isForBy(new Judge(1, 1, 1, 1, 0), Math.min(2, rounds), region);
    }

    int decide(int region) {
        range(in(region, 0, 3));
        state(isGoing && !hasTurn());
        String told = "" + crowd(region);
        for (int judge = 0; judge < judges.size(); judge++) {
            told += isFor(judge, region);
        }
        long first = told.chars().filter(c -> c == 'f').count();
        long second = told.chars().filter(c -> c == 's').count();
        isGoing = false;
        if (first == second) {
            performers.get(sides[0]).money += purse / 2;
            performers.get(sides[1]).money += purse / 2;
            return -1;
        }
        int winner = first > second ? sides[0] : sides[1];
        reward(performers.get(winner), performers.get(first > second ? sides[1] : sides[0]));
        return winner;
    }

    private void reward(Performer winner, Performer loser) {
        winner.money += purse;
        if (loser.tier < winner.tier) {
            int tier = winner.tier;
            winner.tier = loser.tier;
            loser.tier = tier;
        }
        int change = 20 + (int) ((loser.rating - winner.rating) / 20.0);
        boolean isBehind = loser.style == winner.style + 1 || winner.style == 2 && loser.style == 0;
        change += isBehind ? 5 : 0;
        change = change < 1 ? 1 : change > 50 ? 50 : change;
        winner.rating += change;
        loser.rating -= change;
    }

    int addSample(int source, int tenths, int likeness) {
        range(in(source, 0, 9) && in(tenths, 1, 99) && in(likeness, 0, 100));
        state(samples.size() < 10);
        Sample added = new Sample();
        added.source = source;
        added.product = tenths * likeness;
        samples.add(added);
        return samples.size() - 1;
    }

    boolean needsClearing(int sample) {
        index(sample, samples);
        return samples.get(sample).product > 500 && !samples.get(sample).isCleared;
    }

    int clear(int sample, int performer) {
        index(sample, samples);
        index(performer, performers);
        possible(needsClearing(sample));
        int cost = samples.get(sample).product / 10;
        samples.get(sample).isCleared = true;
        performers.get(performer).money -= cost;
        paid[samples.get(sample).source] += cost;
        return cost;
    }

    int paid(int source) {
        range(in(source, 0, 9));
        return paid[source];
    }

    long elapsed() {
        return allBars.stream().mapToLong(b -> 240000 / b.tempo()).sum();
    }

    long checksum() {
        List<Integer> all = new ArrayList<>();
        for (Performer p : performers) {
            all.addAll(List.of(p.rating, p.tier, p.money));
        }
        for (Bar bar : lastBars()) {
            all.add(bar.said().size());
            bar.said().forEach(s -> all.add(s.word()));
        }
        long sum = 7;
        for (int value : all) {
            sum = 31 * sum + value;
        }
        return sum;
    }

    float landedShare() {
        int landed = 0;
        int all = 0;
        for (int bar = 0; bar < lastBars().size(); bar++) {
            landed += landings(bar);
            all += lastBars().get(bar).said().size();
        }
        if (all == 0) {
            throw new ArithmeticException();
        }
        return (float) landed / (float) all;
    }

    double meanRating() {
        if (performers.isEmpty()) {
            throw new ArithmeticException();
        }
        return (double) performers.stream().mapToInt(p -> p.rating).sum() / (double) performers.size();
    }

    boolean isSound() {
        return true;
    }
}
