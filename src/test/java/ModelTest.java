import java.lang.reflect.InvocationTargetException;
import java.lang.reflect.Method;
import java.util.Random;

/** Runs of calls by fixed seeds, each answer beside that of the model. */
final class ModelTest {
    private static final int CALLS = Caller.MOST_CALLS;
    private static final int RUNS = 600;
    /** How many calls the comparison of all that is told takes at most. */
    private static final int COMPARING = 240;
    /** How many calls a sitting takes at most: to empty the text, to type and perform it, and to ask for its stop. */
    private static final int SITTING = 1 + 60 + 2;
    private static final String[] USUAL = {
        "setUp", "setUp", "carry", "face", "crow", "crow", "crow", "crow", "scare", "fill", "fill", "seats", "seats",
        "wind", "wind", "set", "vote", "vote", "pass", "pass", "pass", "undo", "keep", "restore", "perform",
        "clearText", "stopped", "scarecrow", "straw", "weight", "weight", "field", "field", "reason", "reason",
        "decision", "decision", "swings", "swings", "withoutCrows", "turnsIn", "ifTicks", "ifTicks", "count", "count",
    };

    private final Random random;
    private final StrawHouse house = new StrawHouse();
    private final Model model = new Model();
    private final StringBuilder run = new StringBuilder();
    private String fault = "";
    /** From 0 to 3: how seldom an argument is one that the document refuses. */
    private final int care;
    /** Half of the runs look at everything in the end, the others go on instead. */
    private final boolean comparing;
    private int calls;

    private ModelTest(int seed) {
        random = new Random(seed);
        care = seed % 4;
        comparing = seed % 8 < 4;
    }

    static void run(Report report) {
        StringBuilder faults = new StringBuilder();
        for (int seed = 0; seed < RUNS && faults.length() == 0; seed++) {
            ModelTest test = new ModelTest(seed);
            test.runAll();
            faults.append(test.fault);
        }
        report.tell("model: " + RUNS + " runs of " + CALLS + " calls", faults.toString());
        report.tell("model: long runs, far ahead in ticks", farAhead());
        report.tell("model: faults of texts, all with up to four characters", allTexts());
    }

    private void runAll() {
        int last = comparing ? CALLS - COMPARING : CALLS;
        while (calls < last && fault.isEmpty()) {
            if (random.nextInt(25) == 0 && calls + SITTING <= last) {
                typeSitting();
                call("perform");
                call("stopped", random.nextInt(2));
            } else {
                callOne(USUAL[random.nextInt(USUAL.length)]);
            }
        }
        if (comparing) {
            compareAll();
        }
    }

    /** Text by text, till ticks run out: the last tick is reached, and sittings stop there. */
    private static String farAhead() {
        ModelTest test = new ModelTest(7);
        test.call("setUp", 0, 1, 3, 0);
        test.call("set", 0, 7);
        test.call("wind", 1, 4);
        test.typeText(".99;.99;.99;.99;.99;.99;.99;.99;.99;.99;.99;.99;.99;.99;.97");
        for (int n = 0; n < 75; n++) {
            test.call("perform");
        }
        for (int n = 0; n < 20; n++) {
            test.call("pass", 1 + 9 * n);
            test.call("count", 0);
        }
        test.compareAll();
        return test.fault;
    }

    private static String allTexts() {
        char[] signs = "wcfv.;*:+0123469x".toCharArray();
        StringBuilder faults = new StringBuilder();
        for (int number = 0; number < signs.length * signs.length * signs.length * signs.length; number++) {
            StringBuilder text = new StringBuilder();
            for (int rest = number, n = 0; n < 4; n++, rest /= signs.length) {
                text.append(signs[rest % signs.length]);
            }
            StrawHouse house = new StrawHouse();
            for (int n = 0; n < 4; n++) {
                house.type(text.charAt(n));
            }
            int got = house.perform();
            int due = Model.fault(text.toString());
            if (due == -5 ? got < -5 : got != -100 - due) {
                faults.append("    ").append(text).append(" answered ").append(got).append('\n');
            }
        }
        return faults.toString();
    }

    private void typeSitting() {
        StringBuilder text = new StringBuilder();
        int things = 1 + random.nextInt(6);
        for (int n = 0; n < things; n++) {
            text.append(n == 0 ? "" : ";").append(thing());
        }
        if (random.nextInt(4) == 0) {
            char[] signs = "wcfv.;*:+0123456789x\uffff\u0000".toCharArray();
            text.setCharAt(random.nextInt(text.length()), signs[random.nextInt(signs.length)]);
        }
        if (random.nextInt(12) == 0) {
            text.setLength(random.nextInt(text.length()));
        }
        typeText(text.toString());
    }

    private void typeText(String text) {
        call("clearText");
        for (char character : text.toCharArray()) {
            call("type", character);
        }
    }

    private String thing() {
        int known = Math.max(1, model.count(1)) + (random.nextInt(8) == 0 ? 1 : 0);
        int scarecrow = Math.min(11, random.nextInt(known));
        switch (random.nextInt(6)) {
            case 0: return "w" + random.nextInt(4) + "*" + random.nextInt(10);
            case 1:
            case 2: return "c" + scarecrow + ":" + random.nextInt(4);
            case 3: return "f" + scarecrow + "+" + (1 + random.nextInt(64));
            case 4: return random.nextInt(3) == 0 ? "v" : "w0*1";
            default: return "." + (1 + random.nextInt(random.nextInt(5) == 0 ? 99 : 12));
        }
    }

    private void callOne(String name) {
        switch (name) {
            case "setUp": call(name, in(0, 5), in(1, 5), in(1, 9), in(0, 3)); break;
            case "carry": call(name, scarecrow(), in(0, 5)); break;
            case "face":
            case "crow": call(name, scarecrow(), in(0, 3)); break;
            case "scare":
            case "straw":
            case "turnsIn": call(name, scarecrow()); break;
            case "fill": call(name, scarecrow(), in(1, 64)); break;
            case "seats": call(name, in(0, 5), in(1, 9)); break;
            case "wind": call(name, in(0, 3), in(0, 9)); break;
            case "set": call(name, in(0, 1), in(0, random.nextBoolean() ? 8 : 50)); break;
            case "pass": call(name, in(1, random.nextInt(3) == 0 ? 99 : 9)); break;
            case "stopped":
            case "decision": call(name, in(0, 1)); break;
            case "scarecrow": call(name, scarecrow(), in(0, 10)); break;
            case "weight": call(name, in(0, 5), in(0, 3)); break;
            case "field": call(name, in(0, 5), in(0, 3)); break;
            case "reason": call(name, in(0, 5)); break;
            case "ifTicks": call(name, in(1, random.nextInt(3) == 0 ? 300 : 20), in(0, 2)); break;
            case "count": call(name, in(0, 15)); break;
            default: call(name); break;
        }
    }

    private int scarecrow() {
        return in(0, Math.max(0, model.count(1) - 1));
    }

    private int in(int least, int most) {
        int[] odd = {least - 1, most + 1, Integer.MIN_VALUE, Integer.MAX_VALUE};
        if (random.nextInt(10 + 20 * care) == 0) {
            return odd[random.nextInt(odd.length)];
        }
        return least + random.nextInt(most - least + 1);
    }

    private void compareAll() {
        for (int what = 0; what <= 15; what++) {
            call("count", what);
        }
        for (int s = 0; s < model.count(1); s++) {
            for (int what = 0; what <= 10; what++) {
                call("scarecrow", s, what);
            }
            call("straw", s);
            call("turnsIn", s);
        }
        for (int f = 0; f < 6; f++) {
            for (int what = 0; what <= 3; what++) {
                call("field", f, what);
                call("weight", f, what);
            }
            call("reason", f);
        }
        for (int what = 0; what <= 2; what++) {
            call("ifTicks", 1 + random.nextInt(300), what);
            call("decision", what);
        }
        call("swings");
        call("withoutCrows");
    }

    private void call(String name, Object... values) {
        if (!fault.isEmpty()) {
            return;
        }
        calls++;
        if (calls > CALLS) {
            throw new IllegalStateException("this run calls one house more than " + CALLS + " times");
        }
        Object due = answer(model, name, values);
        Object got = answer(house, name, values);
        run.append("    ").append(name).append(java.util.Arrays.toString(values)).append(" = ").append(got).append('\n');
        if (!got.equals(due)) {
            fault = run + "    due is " + due + "\n";
        }
    }

    private static Object answer(Object on, String name, Object... values) {
        for (Method method : on.getClass().getDeclaredMethods()) {
            if (method.getName().equals(name) && method.getParameterCount() == values.length) {
                try {
                    return method.invoke(on, values);
                } catch (IllegalAccessException e) {
                    throw new IllegalStateException(name, e);
                } catch (InvocationTargetException e) {
                    return String.valueOf(e.getCause());
                }
            }
        }
        throw new IllegalArgumentException("no method " + name);
    }
}
