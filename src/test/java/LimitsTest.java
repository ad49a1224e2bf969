/** What is kept has limits: no run of calls, however long, may end in an exception of the machine itself. */
public final class LimitsTest {
    public static void main(String[] args) {
        asManyBarsAs512CallsClose();
        asManySyllablesAs512CallsClose();
        farBehindTheLastCall();
        Check.end();
    }

    private static CypherRing withLongWords() {
        Tape x = new Tape();
        Ring.word(x, 1001, 1000, 1000, 1000);
        Ring.word(x, 2001);
        Ring.performers(x, 0, 0);
        return x.played(x.length());
    }

    /** Fills all turns of a battle with bars of a word said as often as told, and decides it; tells the calls. */
    private static int battle(CypherRing x, int word, int times, int length) {
        int calls = 3;
        x.challenge(0, 1, 1);
        x.begin(3, 4);
        for (int bar = 0; bar < 24; bar++) {
            for (int i = 0; i < times; i++) {
                x.say(word, i * length);
            }
            x.closeBar();
            calls += times + 1;
        }
        x.decide(0);
        return calls;
    }

    private static void asManyBarsAs512CallsClose() {
        CypherRing x = withLongWords();
        int calls = 13;
        while (calls < 440) {
            calls += battle(x, calls == 13 ? 0 : 1, 1, 100);
        }
        x.challenge(0, 1, 1);
        x.begin(1, 1);
        x.say(0, 0);
        x.closeBar();
        Check.due("32 the first one of many bars", true, () -> x.wasHeard(0));
    }

    private static void asManySyllablesAs512CallsClose() {
        CypherRing x = withLongWords();
        int calls = 13;
        while (calls < 380) {
            calls += battle(x, 0, 4, 100);
        }
        x.challenge(0, 1, 1);
        x.begin(1, 1);
        for (int i = 0; i < 4; i++) {
            x.say(0, 100 * i);
        }
        x.closeBar();
        Check.due("32 of many syllables", true, () -> x.wasHeard(0));
    }

    private static void farBehindTheLastCall() {
        Check.due("many bars and nothing thrown", "ended", () -> {
            CypherRing x = withLongWords();
            for (int i = 0; i < 40; i++) {
                battle(x, 1, 1, 100);
            }
            return "ended";
        });
        Check.due("many syllables and nothing thrown", "ended", () -> {
            CypherRing x = withLongWords();
            for (int i = 0; i < 40; i++) {
                battle(x, 0, 4, 100);
                battle(x, 1, 15, 25);
            }
            return "ended";
        });
    }
}
