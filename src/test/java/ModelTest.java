import java.lang.reflect.InvocationTargetException;
import java.lang.reflect.Method;
import java.util.ArrayList;
import java.util.Arrays;
import java.util.Comparator;
import java.util.List;
import java.util.Map;
import java.util.TreeMap;

/**
 * Long runs of calls, the same ones each time: each answer is compared with the model's; each exception must be of
 * a kind that the call's line in the face names, thrown by the class and not by the machine; and an object that is
 * given only the calls that answered must answer alike, for a call that throws changes nothing.
 */
public final class ModelTest {
    private static final int RUNS = 400;
    private static final int CALLS = 512;

    private static long state = 20261119L;
    private static final Map<String, int[]> COUNTS = new TreeMap<>();

    private static int upTo(int bound) {
        state = state * 6364136223846793005L + 1442695040888963407L;
        return (int) ((state >>> 33) % bound);
    }

    private static int from(int least, int most) {
        return least + upTo(most - least + 1);
    }

    public static void main(String[] args) {
        Method[] methods = Arrays.stream(GongCircle.class.getMethods())
                .filter(method -> method.getDeclaringClass() == GongCircle.class)
                .sorted(Comparator.comparing(Method::getName)).toArray(Method[]::new);
        List<String> wrong = new ArrayList<>();
        for (int run = 0; run < RUNS && wrong.size() < 10; run++) {
            runOnce(run, methods, wrong);
        }
        Due.is("answers unlike the model's", "[]", wrong::toString);
        for (Method method : methods) {
            int[] counts = COUNTS.getOrDefault(method.getName(), new int[2]);
            Due.is(method.getName() + " answered often", true, () -> counts[0] > 20);
            Due.is(method.getName() + " threw often, if it can", true,
                    () -> counts[1] > 5 || method.getExceptionTypes().length == 0);
        }
        Due.end();
    }

    private static void runOnce(int run, Method[] methods, List<String> wrong) {
        GongCircle x = new GongCircle();
        GongCircle twin = new GongCircle();
        Model model = new Model();
        int calls = 0;
        while (calls < CALLS && wrong.size() < 10) {
            Object[][] next = run % 8 != 0 && upTo(12) == 0 ? noteCalls() : new Object[1][];
            for (int i = 0; i < next.length && calls < CALLS; i++) {
                calls++;
                Method method;
                Object[] given;
                if (next[i] == null) {
                    method = methods[upTo(methods.length)];
                    if (method.getName().equals("clearNotes") && upTo(10) != 0) {
                        continue;
                    }
                    given = arguments(method, run % 2 == 0 ? 8 : 40);
                } else {
                    method = named(methods, (String) next[i][0]);
                    given = Arrays.copyOfRange(next[i], 1, next[i].length);
                }
                ask(run, calls, method, given, new Object[] {x, twin, model}, wrong);
            }
        }
    }

    private static void ask(int run, int call, Method method, Object[] given, Object[] asked, List<String> wrong) {
        String what = "run " + run + ", call " + call + ": " + method.getName() + Arrays.toString(given);
        Object got = answer(asked[0], method.getName(), method, given);
        Object want = answer(asked[2], method.getName(), method, given);
        boolean threw = got instanceof Class<?>;
        COUNTS.computeIfAbsent(method.getName(), name -> new int[2])[threw ? 1 : 0]++;
        if (!got.equals(want)) {
            wrong.add(what + " answered " + got + ", the model " + want);
        }
        if (threw && !Arrays.asList(method.getExceptionTypes()).contains(got)) {
            wrong.add(what + " threw " + got);
        }
        if (!threw) {
            Object alike = answer(asked[1], method.getName(), method, given);
            if (!got.equals(alike)) {
                wrong.add(what + " answered " + got + ", without the calls that threw " + alike);
            }
        }
    }

    private static Method named(Method[] methods, String name) {
        for (Method method : methods) {
            if (method.getName().equals(name)) {
                return method;
            }
        }
        throw new IllegalStateException(name);
    }

    private static Object answer(Object asked, String name, Method method, Object[] given) {
        try {
            return asked.getClass().getMethod(name, method.getParameterTypes()).invoke(asked, given);
        } catch (InvocationTargetException e) {
            return e.getCause().getClass();
        } catch (ReflectiveOperationException e) {
            throw new IllegalStateException(e);
        }
    }

    /** Calls that note as many notes as a form asks for, and make a tune of them. */
    private static Object[][] noteCalls() {
        char form = "lmgofff".charAt(upTo(7));
        char tuning = "sp".charAt(upTo(2));
        int part = form == 'f' ? 4 * from(1, 3) : 8;
        int times = form == 'm' ? 1 : form == 'g' ? 2 : form == 'o' ? 3 : form == 'f' ? from(1, 2) : 0;
        Object[][] calls = new Object[part + times + 2][];
        calls[0] = new Object[] {"clearNotes"};
        for (int i = 0; i < part; i++) {
            int figure = figure(tuning);
            boolean rests = upTo(3) == 0 && i < part - 1;
            int register = upTo(4) == 0 ? 1 : upTo(4) == 0 ? -1 : 0;
            calls[1 + i] = new Object[] {"addNote", rests ? 0 : figure, rests ? from(-3, 3) : register};
        }
        for (int i = 0; i < times; i++) {
            calls[1 + part + i] = new Object[] {"repeatNotes"};
        }
        calls[1 + part + times] = new Object[] {"addTune", form, tuning};
        return calls;
    }

    private static int figure(char tuning) {
        return tuning == 's' ? new int[] {1, 2, 3, 5, 6}[upTo(5)] : from(1, 7);
    }

    private static Object[] arguments(Method method, int oneIn) {
        Class<?>[] types = method.getParameterTypes();
        int[] usual = usual(method.getName());
        Object[] given = new Object[types.length];
        for (int i = 0; i < types.length; i++) {
            if (types[i] == boolean.class) {
                given[i] = upTo(2) == 0;
            } else if (types[i] == char.class) {
                given[i] = method.getName().equals("addTune") && i == 0 ? letter("lmgof", oneIn) : letter("sp", oneIn);
            } else {
                given[i] = upTo(oneIn) == 0 ? odd(usual[i]) : usual[i];
            }
        }
        return given;
    }

    private static char letter(String usual, int oneIn) {
        return upTo(oneIn) == 0 ? (char) upTo(128) : usual.charAt(upTo(usual.length()));
    }

    private static int odd(int usual) {
        int[] odd = {-1, usual + 1, usual - 1, 100, -usual, Integer.MAX_VALUE, Integer.MIN_VALUE, 65, 0, 1000000};
        return odd[upTo(odd.length)];
    }

    /** Arguments that are mostly in their range; those of letters and truths are not used. */
    private static int[] usual(String name) {
        int tune = upTo(3);
        int beat = from(1, upTo(3) == 0 ? 64 : 8);
        return switch (name) {
            case "addNote" -> new int[] {from(0, 7), from(-1, 1)};
            case "strokeAt", "noteAt", "goalAt" -> new int[] {tune, beat};
            case "learn" -> new int[] {0, from(1, 7), from(1, 7), from(1, 9) * 100 + from(1, 9) * 10 + from(1, 9)};
            case "density" -> new int[] {upTo(5), upTo(4)};
            case "lineAt" -> new int[] {tune, upTo(5), upTo(4), beat, upTo(2) == 0 ? upTo(4) : upTo(32)};
            case "addPlayer" -> new int[] {from(40, 50), from(0, 9), upTo(32)};
            case "setAbsent", "seatOf", "levelOf" -> new int[] {upTo(4), 0};
            case "begin", "phrases" -> new int[] {tune};
            case "play" -> new int[] {upTo(4) == 0 ? from(1, 256) : from(1, 9)};
            case "cueLevel" -> new int[] {upTo(4), upTo(10)};
            case "cueTune" -> new int[] {tune, upTo(10)};
            case "setTempo" -> new int[] {from(100, 5000)};
            case "bend" -> new int[] {from(50, 200)};
            case "gongsWithin" -> new int[] {tune, upTo(10000000)};
            case "addSet" -> new int[] {0, upTo(3) * 69};
            case "setGap" -> new int[] {upTo(3), from(1, 7), upTo(2) == 0 ? from(30, 500) : 171 + 69 * upTo(2)};
            case "pitch" -> new int[] {upTo(3), from(1, 7), from(-1, 1)};
            case "shared" -> new int[] {upTo(3), upTo(3)};
            case "canGoOn", "areWrittenAlike" -> new int[] {tune, upTo(5)};
            case "addPair" -> new int[] {from(1000, 1100), from(1050, 1200)};
            case "file" -> new int[] {upTo(4), 0, from(1, 99)};
            case "replace" -> new int[] {upTo(4), 0, from(1000, 1200)};
            case "drift" -> new int[] {from(1, 60)};
            case "areEven" -> new int[] {upTo(200), upTo(200)};
            case "addMode" -> new int[] {from(1, 7), upTo(24), upTo(24)};
            case "isProper" -> new int[] {tune, upTo(4), upTo(24)};
            case "vary" -> new int[] {tune, upTo(4), beat, from(0, 7), from(-1, 1)};
            case "villageNote" -> new int[] {tune, upTo(4), beat};
            default -> new int[] {upTo(5)};
        };
    }
}
