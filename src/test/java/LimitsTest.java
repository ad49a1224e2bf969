import java.lang.reflect.Method;
import java.lang.reflect.Modifier;
import java.util.ArrayList;
import java.util.Arrays;
import java.util.Comparator;
import java.util.List;

/**
 * What is kept has limits: all holds up to the 512th call, and no run of calls, however long and whatever its numbers,
 * ends in an exception of the machine itself.
 */
public final class LimitsTest {
    private static final int[] NUMBERS = {0, 0, 0, 0, 0, 0, 1, 1, 1, 1, 1, 2, 2, 3, 4, 7, 8, 9, 10, 23, 24, 25, 50, 90,
        100, 375, 399, 400, 1111, 9999, 99999, -1, Integer.MIN_VALUE, Integer.MAX_VALUE};
    private static final List<String> OFTEN = List.of("say", "closeBar", "begin", "challenge", "decide");

    private long seed = 1;

    private LimitsTest() {
    }

    public static void main(String[] args) {
        asManyBarsAsCallsClose();
        asManySyllablesAsCallsClose();
        farBehindTheLastCall();
        new LimitsTest().anyCallsWhatever();
        Check.end();
    }

    private static Tape withLongWords() {
        Tape x = new Tape();
        Ring.word(x, 1001, 1000, 1000, 1000);
        Ring.word(x, 2001);
        Ring.performers(x, 0, 0);
        return x;
    }

    /** A battle that fills all turns with bars of a word said as often as told, and its decision. */
    private static List<Step> battle(int word, int times, int length) {
        List<Step> steps = new ArrayList<>(List.of(Step.of("challenge(0, 1, 1)"), Step.of("begin(3, 4)")));
        for (int bar = 0; bar < 24; bar++) {
            for (int i = 0; i < times; i++) {
                steps.add(new Step("say", word, i * length));
            }
            steps.add(new Step("closeBar"));
        }
        steps.add(Step.of("decide(0)"));
        return steps;
    }

    private static void play(Tape x, List<Step> steps) {
        for (Step step : steps) {
            x.play(step);
        }
    }

    /** The last of all calls tells that the first bar is known, behind as many battles as find room. */
    private static void heardByTheLastCall(String what, List<Step> firstBattle, List<Step> next, int times) {
        Tape x = withLongWords();
        play(x, firstBattle);
        while (x.length() + next.size() <= Tape.MOST_CALLS - 8) {
            play(x, next);
        }
        play(x, List.of(Step.of("challenge(0, 1, 1)"), Step.of("begin(1, 1)")));
        for (int i = 0; i < times; i++) {
            x.say(0, 100 * i);
        }
        x.closeBar();
        while (x.length() < Tape.MOST_CALLS - 1) {
            x.bars();
        }
        Check.due(what, true, () -> x.wasHeard(0));
        Check.due(what + ", the last call", Tape.MOST_CALLS, x::length);
    }

    private static void asManyBarsAsCallsClose() {
        heardByTheLastCall("32 the first of many bars", battle(0, 1, 100), battle(1, 1, 100), 1);
    }

    private static void asManySyllablesAsCallsClose() {
        heardByTheLastCall("32 of many syllables", battle(0, 4, 100), battle(0, 4, 100), 4);
    }

    private static void farBehindTheLastCall() {
        Check.due("many bars and nothing thrown", "ended", () -> playedOften(battle(1, 1, 100)));
        List<Step> both = battle(0, 4, 100);
        both.addAll(battle(1, 15, 25));
        Check.due("many syllables and nothing thrown", "ended", () -> playedOften(both));
    }

    private static String playedOften(List<Step> steps) {
        Tape first = withLongWords();
        CypherRing x = first.played(first.length());
        for (int i = 0; i < 40; i++) {
            for (Step step : steps) {
                step.on(x);
            }
        }
        return "ended";
    }

    /** Calls with any numbers throw nothing but what the face names for them. */
    private void anyCallsWhatever() {
        Method[] all = CypherRing.class.getDeclaredMethods();
        Arrays.sort(all, Comparator.comparing(Method::getName));
        List<Method> often = new ArrayList<>();
        for (Method method : all) {
            for (int i = 0; i < 20 && OFTEN.contains(method.getName()); i++) {
                often.add(method);
            }
            if (Modifier.isPublic(method.getModifiers())) {
                often.add(method);
            }
        }
        for (int words : new int[] {0, 1, 2, 12, 24}) {
            Tape first = Ring.withWords(words);
            CypherRing x = first.played(first.length());
            for (int call = 0; call < 100000; call++) {
                playAny(x, often.get(any(often.size())));
            }
        }
    }

    private void playAny(CypherRing x, Method method) {
        Object[] args = new Object[method.getParameterCount()];
        for (int i = 0; i < args.length; i++) {
            boolean isTruth = method.getParameterTypes()[i] == boolean.class;
            args[i] = isTruth ? any(2) == 1 : (Object) NUMBERS[any(NUMBERS.length)];
        }
        Step step = new Step(method.getName(), args);
        String answer = step.answerOn(x);
        if (answer.startsWith("throws.")) {
            boolean isNamed = Arrays.stream(method.getExceptionTypes())
                    .anyMatch(type -> answer.equals("throws." + type.getName()));
            Check.due(step + " by any calls, " + answer + " is named", true, () -> isNamed);
        }
    }

    /** A number from 0 to below the limit; always the same ones. */
    private int any(int limit) {
        seed = (seed * 25214903917L + 11) & ((1L << 48) - 1);
        return (int) ((seed >>> 20) % limit);
    }
}
