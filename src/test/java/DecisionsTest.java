import java.util.Arrays;

/** Promise 41: decisions, purses, ratings and tiers. */
public final class DecisionsTest {
    private static final Class<?> RANGE = IllegalArgumentException.class;
    private static final Class<?> STATE = IllegalStateException.class;

    public static void main(String[] args) {
        decide();
        decideThrows();
        decideByMore();
        decideByRounds();
        decideByTheRegion();
        decideDrawn();
        pursesAtTheLimits();
        pursesAddUp();
        ratingsByStyles();
        ratings();
        ratingsCutTowardZero();
        ratingsByMostAtMost();
        ratingsByOneAtLeast();
        tiers();
        Check.end();
    }

    private static void decide() {
        Tape x = new Tape();
        Ring.word(x, 1111);
        Ring.performers(x, 0, 0, 0);
        x.challenge(2, 1, 501);
        x.begin(1, 1);
        x.say(0, 50);
        x.closeBar();
        x.say(0, 100);
        x.closeBar();
        Check.due("41 the second side wins", 2, () -> x.decide(0));
        Check.due("41 the winner's rating", 1020, () -> x.rating(2));
        Check.due("41 the loser's rating", 980, () -> x.rating(1));
        Check.due("41 the rating of another", 1000, () -> x.rating(0));
        Check.due("41 the purse", 501, () -> x.money(2));
        Check.due("41 no purse", 0, () -> x.money(1));
        Check.due("41 no purse for another", 0, () -> x.money(0));
        Check.due("41 it is not on", false, x::isOn);
        Check.due("41 the crowd still tells", 's', () -> x.crowd(0));
    }

    private static void decideThrows() {
        Tape x = new Tape();
        noneWaits(x, "a new object");
        Ring.performers(x, 0, 0);
        x.challenge(0, 1, 0);
        noneWaits(x, "a challenge waits");
        x.begin(1, 1);
        noneWaits(x, "the first turn");
        x.choke();
        noneWaits(x, "the last turn");
        x.choke();
        Check.dueThrowBeyond(x, "41 it waits, region", RANGE, 0, 3, x::decide);
        Check.due("41 it waits, the last region", -1, () -> x.decide(3));
        noneWaits(x, "decided");
    }

    private static void noneWaits(Tape x, String when) {
        Check.dueThrow(x, "41 " + when, STATE, () -> x.decide(0));
        Check.dueThrow(x, "41 " + when + ", the last region", STATE, () -> x.decide(3));
        Check.dueThrowBeyond(x, "41 " + when + ", region", RANGE, 0, 3, x::decide);
    }

    /** Judges without weights, who lean so, and the crowd: performer 1 is the first side, 0 the second one. */
    private static void decideByMore() {
        int[][] leanings = {{}, {1}, {-1}, {0}, {0, -20}, {1, -1}, {1, 1, -1}, {1, -1, -1}, {1, 1, -1, -1, 0},
            {1, 1, 1, -1, -1}, {1, 1, -1, -1, -1}, {1, 1, 1, 1, 1}, {-1, -1, -1, -1, -1}};
        int[] crowdForNobody = {-1, 1, 0, -1, 0, -1, 1, 0, -1, 1, 0, 1, 0};
        int[] crowdForTheFirst = {1, 1, -1, 1, -1, 1, 1, -1, 1, 1, -1, 1, 0};
        int[] crowdForTheSecond = {0, -1, 0, 0, 0, 0, -1, 0, 0, -1, 0, 1, 0};
        for (int i = 0; i < leanings.length; i++) {
            decideByLeanings(Ring.rounds(0, 0), leanings[i], crowdForNobody[i]);
            decideByLeanings(Ring.rounds(1, 0), leanings[i], crowdForTheFirst[i]);
            decideByLeanings(Ring.rounds(0, 1), leanings[i], crowdForTheSecond[i]);
        }
    }

    private static void decideByLeanings(Tape x, int[] leanings, int want) {
        for (int leaning : leanings) {
            x.addJudge(0, leaning);
        }
        String what = "41 the crowd being " + x.crowd(0) + ", judges leaning " + Arrays.toString(leanings);
        Check.due(what, want, () -> x.decide(0));
    }

    private static void decideByRounds() {
        Check.due("41 the crowd by two rounds of three", 1, () -> Ring.rounds(1, 0, 0, 0, 0, 4).decide(0));
        Tape x = Ring.rounds(1, 0, 0, 0, 0, 4);
        x.addJudge(1111, 0);
        Check.due("41 a judge by all three", -1, () -> x.decide(0));
    }

    /** Ends that rhyme in the last region alone: once with the crowd for nobody there, once without judges. */
    private static void decideByTheRegion() {
        for (int region = 0; region < 4; region++) {
            int told = region;
            boolean isLast = region == 3;
            Tape judged = withEndsThatRhymeInTheLastRegion();
            judged.addJudge(1000, 0);
            judged.say(0, 0);
            judged.closeBar();
            judged.choke();
            Check.due("40 in region " + region, isLast ? '-' : 's', () -> judged.crowd(told));
            Check.due("41 by a judge, region " + region, isLast ? 1 : 0, () -> judged.decide(told));
            Tape crowded = withEndsThatRhymeInTheLastRegion();
            crowded.choke();
            Check.due("41 by the crowd, region " + region, isLast ? 1 : -1, () -> crowded.decide(told));
        }
    }

    private static Tape withEndsThatRhymeInTheLastRegion() {
        Tape x = Ring.exactBattle(Ring.withRhymes(), 1, 2);
        x.setAccent(3, 7, 6);
        for (int word = 3; word <= 4; word++) {
            x.say(word, 50);
            x.closeBar();
        }
        return x;
    }

    private static void decideDrawn() {
        Tape x = Ring.withPerformers(0, 1);
        for (int i = 0; i < 3; i++) {
            x.challenge(0, 1, 0);
            x.refuse();
        }
        x.challenge(0, 1, 101);
        x.begin(1, 1);
        Ring.chokeAll(x);
        Check.due("41 drawn", -1, () -> x.decide(0));
        Check.due("41 half of the purse, cut", 50, () -> x.money(0));
        Check.due("41 half of the purse for the other", 50, () -> x.money(1));
        Check.due("41 ratings stay", 1000, () -> x.rating(0));
        Check.due("41 ratings of both", 1000, () -> x.rating(1));
        Check.due("41 tiers stay", 2, () -> x.tier(1));
        Check.due("41 tiers of both", 1, () -> x.tier(0));
    }

    private static void pursesAtTheLimits() {
        int[] purses = {0, 1, 2, 99998, 99999};
        int[] halves = {0, 0, 1, 49999, 49999};
        for (int i = 0; i < purses.length; i++) {
            int purse = purses[i];
            Tape drawn = afterABattle(purse, 0);
            Check.due("41 drawn, half of " + purse, halves[i], () -> drawn.money(0));
            Check.due("41 drawn, the other half of " + purse, halves[i], () -> drawn.money(1));
            Tape won = afterABattle(purse, 1);
            Check.due("41 won, all of " + purse, purse, () -> won.money(1));
            Check.due("41 lost, nothing of " + purse, 0, () -> won.money(0));
        }
    }

    /** A battle behind another one, decided by a judge who leans so. */
    private static Tape afterABattle(int purse, int leaning) {
        Tape x = Ring.withPerformers(0, 0);
        x.addJudge(0, leaning);
        x.challenge(0, 1, purse);
        x.begin(1, 1);
        Ring.chokeAll(x);
        x.decide(0);
        return x;
    }

    private static void pursesAddUp() {
        Tape x = Ring.withPerformers(0, 0);
        x.addSample(0, 99, 10);
        x.clear(0, 1);
        int[] drawn = {-49, 1, 51};
        for (int want : drawn) {
            x.challenge(0, 1, 100);
            x.begin(1, 1);
            Ring.chokeAll(x);
            x.decide(0);
            Check.due("41 drawn, on top of what one had", want, () -> x.money(1));
        }
        Check.due("41 drawn, the other one's", 150, () -> x.money(0));
        Season season = new Season(0, 0);
        season.win(0, 1, 20);
        season.win(0, 1, 18);
        season.win(1, 0, 23);
        Check.due("41 two purses", 2 * Season.PURSE, () -> season.x.money(0));
        Check.due("41 one purse", Season.PURSE, () -> season.x.money(1));
    }

    /** Performers, and battles which are won by the first side, as a judge leans to it; who that is z tells. */
    private static final class Season {
        private static final int PURSE = 10;

        private final Tape x;
        private final int[] ratings;
        private long z = 1;

        Season(int... styles) {
            x = Ring.withPerformers(styles);
            x.addJudge(0, 1);
            ratings = new int[styles.length];
            Arrays.fill(ratings, 1000);
        }

        /** How far one is ahead of another, by what is due. */
        int lead(int one, int other) {
            return ratings[one] - ratings[other];
        }

        /** A battle by which the ratings have to change so much. */
        void win(int winner, int loser, int change) {
            z = z * 48271 % 2147483647;
            boolean isChallengedFirst = z % 2 == 1;
            x.challenge(isChallengedFirst ? loser : winner, isChallengedFirst ? winner : loser, PURSE);
            x.begin(1, 1);
            x.choke();
            x.choke();
            Check.due("41 the winner", winner, () -> x.decide(0));
            ratings[winner] += change;
            ratings[loser] -= change;
        }

        void dueRatings(String what) {
            for (int i = 0; i < ratings.length; i++) {
                int performer = i;
                Check.due(what + ", rating of " + performer, ratings[performer], () -> x.rating(performer));
            }
        }

        /** The first performer wins and the last one loses, both against others, until they are so far apart. */
        void drawApart(int lead) {
            int last = ratings.length - 1;
            for (int i = 0; lead(0, last) < lead; i++) {
                int other = 1 + i / 2 % (last - 1);
                int winner = i % 2 == 0 ? 0 : other;
                int loser = i % 2 == 0 ? other : last;
                win(winner, loser, 20 - lead(winner, loser) / 20);
            }
        }
    }

    private static void ratingsByStyles() {
        for (int winner = 0; winner < 3; winner++) {
            for (int loser = 0; loser < 3; loser++) {
                boolean isBehind = winner == 0 && loser == 1 || winner == 1 && loser == 2 || winner == 2 && loser == 0;
                Season season = new Season(winner, loser);
                season.win(0, 1, isBehind ? 25 : 20);
                season.dueRatings("41 style " + winner + " over " + loser);
                Season behind = new Season(loser, winner);
                behind.win(1, 0, isBehind ? 25 : 20);
                behind.dueRatings("41 style " + winner + " over " + loser + ", the other way");
            }
        }
    }

    private static void ratings() {
        Season season = new Season(0, 0, 1);
        int[] less = {20, 18, 17, 15, 13, 12};
        for (int change : less) {
            season.win(0, 1, change);
            season.dueRatings("41 over a weaker one");
        }
        season.win(1, 0, 20 + 9);
        season.dueRatings("41 over one ahead by 190, cut");
        season.win(1, 0, 20 + 6);
        season.dueRatings("41 over one ahead by 132, cut");
        season.win(0, 2, 20 - 2 + 5);
        season.dueRatings("41 over one behind by 40, and the style");
        Check.due("49 all ratings", 1000.0, season.x::meanRating);
        Check.due("50 all ratings", true, season.x::isSound);
    }

    /** A lead of less than 20, either way, does not count. */
    private static void ratingsCutTowardZero() {
        Season ahead = new Season(0, 0);
        ahead.win(0, 1, 20);
        ahead.win(1, 0, 22);
        Check.due("41 a lead", 4, () -> ahead.lead(1, 0));
        ahead.win(1, 0, 20);
        ahead.dueRatings("41 by one ahead by 4");
        Season behind = new Season(0, 0);
        behind.win(0, 1, 20);
        behind.win(1, 0, 22);
        behind.win(0, 1, 20);
        behind.dueRatings("41 by one behind by 4");
    }

    private static void ratingsByMostAtMost() {
        int[] all = new int[10];
        mostAtMost(all, 580, 49);
        mostAtMost(all, 600, 50);
        mostAtMost(all, 620, 50);
        int[] lastOverFirst = {0, 0, 0, 0, 0, 0, 0, 0, 0, 2};
        mostAtMost(lastOverFirst, 480, 49);
        mostAtMost(lastOverFirst, 500, 50);
        mostAtMost(lastOverFirst, 520, 50);
        mostAtMost(lastOverFirst, 600, 50);
    }

    private static void mostAtMost(int[] styles, int lead, int change) {
        Season season = new Season(styles);
        season.drawApart(lead);
        season.dueRatings("41 before, apart by " + lead);
        Check.due("41 apart by " + lead + " or some more", true, () -> season.lead(0, 9) < lead + 20);
        season.win(9, 0, change);
        season.dueRatings("41 over one ahead by " + lead);
    }

    private static void ratingsByOneAtLeast() {
        oneAtLeast(0, 20, 360, 2);
        oneAtLeast(0, 20, 380, 1);
        oneAtLeast(0, 20, 400, 1);
        oneAtLeast(0, 20, 420, 1);
        oneAtLeast(1, 25, 460, 2);
        oneAtLeast(1, 25, 480, 1);
        oneAtLeast(1, 25, 500, 1);
        oneAtLeast(1, 25, 520, 1);
    }

    private static void oneAtLeast(int styleOfTheLoser, int changeAtFirst, int lead, int change) {
        Season season = new Season(0, styleOfTheLoser);
        while (season.lead(0, 1) < lead) {
            season.win(0, 1, Math.max(1, changeAtFirst - season.lead(0, 1) / 20));
        }
        season.dueRatings("41 before, apart by " + lead);
        Check.due("41 apart by " + lead + " or some more", true, () -> season.lead(0, 1) < lead + 20);
        season.win(0, 1, change);
        season.dueRatings("41 over one behind by " + lead);
    }

    private static void tiers() {
        Season season = new Season(0, 0);
        Tape x = season.x;
        for (int i = 0; i < 3; i++) {
            x.challenge(0, 1, 0);
            x.refuse();
        }
        season.win(0, 1, 20);
        Check.due("41 the winner's tier stays", 1, () -> x.tier(0));
        Check.due("41 the loser's tier was lower", 2, () -> x.tier(1));
        season.win(1, 0, 22);
        Check.due("41 the winner's tier becomes the loser's", 1, () -> x.tier(1));
        Check.due("41 the loser's tier becomes the winner's", 2, () -> x.tier(0));
        Season equal = new Season(0, 0);
        equal.win(1, 0, 20);
        Check.due("41 like tiers stay", 1, () -> equal.x.tier(0));
        Check.due("41 like tiers stay, of both", 1, () -> equal.x.tier(1));
    }
}
