import java.lang.reflect.Method;
import java.lang.reflect.Modifier;
import java.util.ArrayList;
import java.util.HashMap;
import java.util.List;
import java.util.Map;

/** An object of the class and one of the model, called alike; the first answer that is not alike is told. */
final class Pair {
    /** As many calls as the document allows on one object. */
    static final int MOST_CALLS = 512;
    private static final Map<String, Method> REAL = methods(DuelLetters.class);
    private static final Map<String, Method> MODEL = methods(Model.class);

    final Model model = new Model();
    private final DuelLetters real = new DuelLetters();
    private final List<String> log = new ArrayList<>();
    int calls = 0;
    boolean wrong = false;

    private static Map<String, Method> methods(Class<?> of) {
        Map<String, Method> map = new HashMap<>();
        for (Method m : of.getDeclaredMethods()) {
            if (Modifier.isPublic(m.getModifiers())) map.put(m.getName(), m);
        }
        return map;
    }

    /** The model's answer; once an answer was wrong, or all calls are used up, nothing is called any more. */
    int call(String name, Integer... args) {
        if (calls == MOST_CALLS || wrong) return 0;
        calls++;
        try {
            int got = (int) REAL.get(name).invoke(real, (Object[]) args);
            int want = (int) MODEL.get(name).invoke(model, (Object[]) args);
            log.add(name + List.of(args) + " " + got);
            if (got != want) fail("the last answer is not " + want);
            return want;
        } catch (ReflectiveOperationException e) {
            fail(name + List.of(args) + " threw " + e.getCause());
            return 0;
        }
    }

    private void fail(String what) {
        wrong = true;
        System.out.println(String.join("\n", log));
        System.out.println(what);
    }

    /** Puts just the bytes of a text on the tape; what is fed beyond them, and cut off again, is filled with a byte. */
    void feed(String text, int filler) {
        call("trim", 0);
        for (int at = 0; at < text.length(); at += 12) {
            int[] v = new int[3];
            for (int i = 0; i < 12; i++) {
                v[i / 4] = v[i / 4] << 8 | (at + i < text.length() ? text.charAt(at + i) : filler & 255);
            }
            call("feed", v[0], v[1], v[2]);
        }
        call("trim", text.length());
    }
}
