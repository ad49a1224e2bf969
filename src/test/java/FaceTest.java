import java.lang.reflect.Constructor;
import java.lang.reflect.Field;
import java.lang.reflect.Method;
import java.lang.reflect.Modifier;
import java.util.TreeSet;

/** The public face: just the document's calls with their exceptions, and nothing else that can be seen. */
public final class FaceTest {
    private static final String[] FACE = {
        "int addSyllable(int,int,int,boolean) throws IllegalArgumentException,IllegalStateException",
        "int clearSyllables()",
        "int addWord(int,int) throws IllegalArgumentException,UnsupportedOperationException,IllegalStateException",
        "int syllables(int) throws IndexOutOfBoundsException",
        "int setAccent(int,int,int) throws IllegalArgumentException",
        "char rhyme(int,int,int) throws IndexOutOfBoundsException,IllegalArgumentException",
        "int near(int,int,int) throws IndexOutOfBoundsException,IllegalArgumentException",
        "int bestRhyme(int,int) throws IndexOutOfBoundsException,IllegalArgumentException,NoSuchElementException",
        "int setBeat(int,int) throws IllegalArgumentException,IllegalStateException",
        "int barTime()",
        "int addPerformer(int) throws IllegalArgumentException,IllegalStateException",
        "int rating(int) throws IndexOutOfBoundsException",
        "int tier(int) throws IndexOutOfBoundsException",
        "int money(int) throws IndexOutOfBoundsException",
        "int challenge(int,int,int)"
            + " throws IndexOutOfBoundsException,IllegalArgumentException,UnsupportedOperationException",
        "int refuse() throws UnsupportedOperationException",
        "int begin(int,int) throws IllegalArgumentException,UnsupportedOperationException",
        "boolean isOn()",
        "int barTopic(int) throws IllegalArgumentException,IllegalStateException,UnsupportedOperationException",
        "int side() throws IllegalStateException",
        "int round() throws IllegalStateException",
        "int say(int,int)"
            + " throws IndexOutOfBoundsException,IllegalArgumentException,IllegalStateException"
            + ",UnsupportedOperationException",
        "int closeBar() throws IllegalStateException,UnsupportedOperationException",
        "int choke() throws IllegalStateException",
        "int restart() throws IllegalStateException,UnsupportedOperationException",
        "int bars()",
        "int wordAt(int,int) throws IndexOutOfBoundsException,NoSuchElementException",
        "int landings(int) throws IndexOutOfBoundsException",
        "int answers(int) throws IndexOutOfBoundsException",
        "int chain(int,int,int) throws IndexOutOfBoundsException,IllegalArgumentException",
        "boolean wasHeard(int) throws IndexOutOfBoundsException",
        "int languages(int) throws IndexOutOfBoundsException",
        "int firstUser(int) throws IndexOutOfBoundsException,NoSuchElementException",
        "int read() throws NoSuchElementException",
        "int addJudge(int,int) throws IllegalArgumentException,IllegalStateException",
        "int marks(int,int,int,int) throws IllegalArgumentException,NoSuchElementException",
        "int card(int,int,int) throws IndexOutOfBoundsException,IllegalArgumentException,NoSuchElementException",
        "char isFor(int,int) throws IndexOutOfBoundsException,IllegalArgumentException,NoSuchElementException",
        "char crowd(int) throws IllegalArgumentException,NoSuchElementException",
        "int decide(int) throws IllegalArgumentException,IllegalStateException",
        "int addSample(int,int,int) throws IllegalArgumentException,IllegalStateException",
        "boolean needsClearing(int) throws IndexOutOfBoundsException",
        "int clear(int,int) throws IndexOutOfBoundsException,UnsupportedOperationException",
        "int paid(int) throws IllegalArgumentException",
        "long elapsed()",
        "long checksum()",
        "float landedShare() throws ArithmeticException",
        "double meanRating() throws ArithmeticException",
        "boolean isSound()"
    };

    public static void main(String[] args) {
        Check.due("the class is public and final", Modifier.PUBLIC | Modifier.FINAL, CypherRing.class::getModifiers);
        Check.due("the calls", String.join("\n", wanted()), () -> String.join("\n", found()));
        for (Constructor<?> constructor : CypherRing.class.getDeclaredConstructors()) {
            Check.due("the constructor", "public CypherRing()", constructor::toString);
        }
        for (Field field : CypherRing.class.getDeclaredFields()) {
            Check.due("field " + field.getName() + " is private", true,
                    () -> Modifier.isPrivate(field.getModifiers()));
        }
        Check.end();
    }

    private static TreeSet<String> wanted() {
        TreeSet<String> wanted = new TreeSet<>();
        for (String call : FACE) {
            wanted.add("public " + call);
        }
        return wanted;
    }

    private static TreeSet<String> found() {
        TreeSet<String> found = new TreeSet<>();
        for (Method method : CypherRing.class.getDeclaredMethods()) {
            if (!Modifier.isPrivate(method.getModifiers())) {
                found.add(method.toString().replace("CypherRing.", "").replace("java.lang.", "")
                        .replace("java.util.", ""));
            }
        }
        return found;
    }
}
