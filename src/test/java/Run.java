import java.lang.reflect.InvocationTargetException;
import java.lang.reflect.Method;
import java.util.ArrayList;
import java.util.List;
import java.util.Map;
import java.util.TreeMap;

/**
 * Calls of one object, written as in the document, with the answers that are due. An object is used for at most 512
 * calls; the words NONE, HOLD, EVEN, SLOW, LOWEST and HIGHEST stand for their numbers.
 */
final class Run {
    static final String INDEX = "throws.IndexOutOfBoundsException";
    static final String ARGUMENT = "throws.IllegalArgumentException";
    static final String STATE = "throws.IllegalStateException";

    static final int CALLS = 512;
    private static final int LOOKED_AT = 300;
    private static final Map<String, Integer> WORDS = Map.of("NONE", PegbarBarn.NONE, "HOLD", PegbarBarn.HOLD,
            "EVEN", PegbarBarn.EVEN, "SLOW", PegbarBarn.SLOW,
            "LOWEST", Integer.MIN_VALUE, "HIGHEST", Integer.MAX_VALUE);
    private static final Map<String, Method> FACE = face();

    private static String title = "";

    private final PegbarBarn barn = new PegbarBarn();
    private final List<String> calls = new ArrayList<>();

    Run(String... first) {
        tell(first);
    }

    static void under(String words) {
        title = words;
    }

    private static Map<String, Method> face() {
        Map<String, Method> face = new TreeMap<>();
        for (Method m : PegbarBarn.class.getDeclaredMethods()) {
            face.put(m.getName(), m);
        }
        return face;
    }

    private static Object[] numbers(String call) {
        String inside = call.substring(call.indexOf('(') + 1, call.length() - 1).trim();
        String[] words = inside.isEmpty() ? new String[0] : inside.split(", ");
        Object[] numbers = new Object[words.length];
        for (int i = 0; i < words.length; i++) {
            numbers[i] = WORDS.containsKey(words[i]) ? WORDS.get(words[i]) : Integer.valueOf(words[i]);
        }
        return numbers;
    }

    private String make(String call) {
        calls.add(call);
        if (calls.size() > CALLS) {
            return "after its 512th call";
        }
        try {
            return String.valueOf(FACE.get(call.substring(0, call.indexOf('('))).invoke(barn, numbers(call)));
        } catch (InvocationTargetException e) {
            return "throws." + e.getCause().getClass().getSimpleName();
        } catch (IllegalAccessException e) {
            return "is not public";
        }
    }

    private String where(String call) {
        return title + ", after " + calls.size() + " calls: " + call;
    }

    int made() {
        return calls.size();
    }

    /** Makes calls that must not be refused. */
    Run tell(String... told) {
        for (String call : told) {
            String place = where(call);
            String answer = make(call);
            if (answer.startsWith("throws.")) {
                Check.due(place, "not refused", () -> answer);
            }
        }
        return this;
    }

    /** The same call so many times, with # as 0, 1, 2 .. */
    Run tellEach(String call, int times) {
        for (int i = 0; i < times; i++) {
            tell(call.replace("#", String.valueOf(i)));
        }
        return this;
    }

    /** The answer of a call that must not be refused. */
    String answer(String call) {
        String place = where(call);
        String answer = make(call);
        Check.isTrue(place + " is not refused", !answer.startsWith("throws."));
        return answer;
    }

    Run due(Object want, String call) {
        Check.due(where(call), want, () -> make(call));
        return this;
    }

    /** Answers of a call with # as 0, 1, 2 .. */
    Run dueEach(String call, Object... wants) {
        for (int i = 0; i < wants.length; i++) {
            due(wants[i], call.replace("#", String.valueOf(i)));
        }
        return this;
    }

    /** Poses by both calls: the one that may be held, and the one that is found anew. */
    Run pose(Object want, String numbers) {
        return due(want, "pose(" + numbers + ")").due(want, "poseAnew(" + numbers + ")");
    }

    /** Calls that throw, and change nothing by that: an object without them answers the same. */
    Run refused(String exception, String... refused) {
        for (String call : refused) {
            due(exception, call);
            int most = Math.min(LOOKED_AT, CALLS - calls.size());
            Run with = again(calls.size());
            Run without = again(calls.size() - 1);
            unchanged(call, without.look(most), with.look(most));
        }
        return this;
    }

    /** Two looks at like objects, one of which had a call more, must show the same. */
    static void unchanged(String call, String without, String with) {
        Check.due(title + ": " + call + " changes", "nothing", () -> unlike(without, with));
    }

    /** The first line of two looks that is not the same in both, or nothing. */
    private static String unlike(String first, String second) {
        String[] one = first.split("\n");
        String[] other = second.split("\n");
        for (int i = 0; i < Math.min(one.length, other.length); i++) {
            if (!one[i].equals(other[i])) {
                return one[i] + " to " + other[i];
            }
        }
        return one.length == other.length ? "nothing" : "how much there is to ask";
    }

    /** Refused calls with the numbers that an index must not be: those next to the first and the last, and far ones. */
    Run refusedIndex(String call, int many) {
        return refused(INDEX, call.replace("#", "-1"), call.replace("#", String.valueOf(many)),
                call.replace("#", "LOWEST"), call.replace("#", "HIGHEST"));
    }

    /** A new object after the first ones of the same calls. */
    Run again(int many) {
        Run again = new Run();
        for (String call : calls.subList(0, many)) {
            again.make(call);
        }
        return again;
    }

    /** What can be asked, up to so many answers, one a line. */
    String look(int most) {
        int end = calls.size() + most;
        StringBuilder seen = new StringBuilder();
        for (int what = 0; what < 7; what++) {
            ask("count(" + what + ")", seen, end);
        }
        for (int i = 0; isThere(ask("ofNote(" + i + ", 0)", seen, end)); i++) {
            askEach("ofNote(" + i + ", #)", 1, 4, seen, end);
        }
        for (int i = 0; isThere(ask("needs(" + i + ")", seen, end)); i++) {
            ask("mixes(" + i + ")", seen, end);
            lookAtFrames(i, seen, end);
        }
        for (int i = 0; isThere(ask("ofAsset(" + i + ", 0)", seen, end)); i++) {
            askEach("ofAsset(" + i + ", #)", 1, 3, seen, end);
        }
        lookAtPoses(seen, end);
        return seen.toString();
    }

    private void lookAtFrames(int scene, StringBuilder seen, int end) {
        for (int i = 0; isThere(ask("ofFrame(" + scene + ", " + i + ", 0)", seen, end)); i++) {
            askEach("ofFrame(" + scene + ", " + i + ", #)", 1, 6, seen, end);
            for (int j = 0; isThere(ask("kept(" + scene + ", " + i + ", " + j + ")", seen, end)); j++) {
                continue;
            }
        }
    }

    private void lookAtPoses(StringBuilder seen, int end) {
        for (int i = 0; i < 100; i++) {
            // 37 frames on, round about: an object with many bones is still looked at all over.
            int frame = i * 37 % 100;
            boolean asset = true;
            for (int a = 0; asset; a++) {
                boolean version = true;
                for (int v = -1; version; v++) {
                    int bone = 0;
                    while (isThere(ask("pose(" + a + ", " + v + ", " + bone + ", " + frame + ")", seen, end))) {
                        bone++;
                    }
                    version = bone > 0;
                }
                asset = isThere(ask("ofAsset(" + (a + 1) + ", 1)", seen, end));
            }
        }
    }

    private void askEach(String call, int first, int end, StringBuilder seen, int last) {
        for (int i = first; i < end; i++) {
            ask(call.replace("#", String.valueOf(i)), seen, last);
        }
    }

    private String ask(String call, StringBuilder seen, int last) {
        if (calls.size() >= last) {
            return "";
        }
        String answer = make(call);
        seen.append(call).append(" = ").append(answer).append('\n');
        return answer;
    }

    private static boolean isThere(String answer) {
        return !answer.isEmpty() && !answer.startsWith("throws.");
    }
}
