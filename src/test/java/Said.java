import java.io.IOException;
import java.util.HashMap;
import java.util.Map;

/**
 * Holds tests against the sentences of the document: a sentence is told, in its words, ahead of the calls that
 * show it. Words that the document does not have, a sentence that no call shows, and, at the end, words of the
 * document that were not told count as wrong.
 */
final class Said {
    private static Map<String, String> parts;
    private static final Map<String, boolean[]> TOLD = new HashMap<>();
    private static String part;
    private static String sentence;
    private static int askedAhead;
    private static int number;

    private Said() {
    }

    static void begin() throws IOException {
        parts = Document.parts();
        for (Map.Entry<String, String> each : parts.entrySet()) {
            TOLD.put(each.getKey(), new boolean[each.getValue().length()]);
        }
    }

    static void part(String name) {
        lookThatItWasShown();
        part = name;
        sentence = null;
        Due.is("the document has " + name, true, () -> parts.containsKey(name));
    }

    static void says(String words) {
        lookThatItWasShown();
        sentence = words;
        number = 0;
        String text = parts.getOrDefault(part, "");
        boolean[] told = TOLD.getOrDefault(part, new boolean[0]);
        int at = text.indexOf(words);
        while (at >= 0 && told[at]) {
            at = text.indexOf(words, at + 1);
        }
        int found = at;
        Due.is(part + " says: " + words, true, () -> found >= 0);
        for (int i = at; at >= 0 && i < at + words.length(); i++) {
            told[i] = true;
        }
        askedAhead = Due.asked();
    }

    private static void lookThatItWasShown() {
        if (sentence != null) {
            boolean isShown = Due.asked() > askedAhead;
            Due.is(part + ", shown by a call: " + sentence, true, () -> isShown);
        }
    }

    private static String label() {
        number++;
        return part + ", answer " + number + " to: " + sentence + "\n  ";
    }

    static void is(Object due, Due.Call call) {
        Due.is(label(), due, call);
    }

    static void are(Object due, Due.Call... calls) {
        for (Due.Call call : calls) {
            Due.is(label(), due, call);
        }
    }

    /** Each call throws this on a city, and the city gives all answers that one without the call gives. */
    static void refused(Twin twin, Class<?> due, Twin.On... calls) {
        for (Twin.On call : calls) {
            Valvekeeper x = twin.make();
            Due.is(label(), due, () -> call.go(x));
            Due.is(label() + "nothing changed", twin.answers(), () -> twin.answersOf(x));
        }
    }

    static void refused(Class<?> due, Twin.On... calls) {
        refused(Twin.CITY, due, calls);
    }

    /** Ends the test: of each of these parts no letter and no digit may be left that was not told. */
    static void end(String... names) {
        lookThatItWasShown();
        for (String name : names) {
            Due.is(name + ", left out", "", () -> leftOut(name));
        }
        Due.end();
    }

    private static String leftOut(String name) {
        StringBuilder left = new StringBuilder();
        boolean[] told = TOLD.getOrDefault(name, new boolean[0]);
        for (int i = 0; i < told.length; i++) {
            char sign = parts.get(name).charAt(i);
            if (!told[i] && Character.isLetterOrDigit(sign)) {
                left.append(sign);
            }
        }
        return left.toString();
    }
}
