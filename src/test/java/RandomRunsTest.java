import java.lang.reflect.InvocationTargetException;
import java.lang.reflect.Method;
import java.util.Arrays;
import java.util.HashMap;
import java.util.Map;
import java.util.Random;

/** Runs of calls drawn from fixed seeds: the class and the model must give the same answers. */
public final class RandomRunsTest {
    private static final int RUNS = 400;
    private static final int MAX_CALLS = 512;
    private static final Map<String, Method> OF_CLASS = new HashMap<>();
    private static final Map<String, Method> OF_MODEL = new HashMap<>();
    private static final String[] QUESTIONS = {
        "signal", "count", "range", "rounds", "demanded", "width", "isSigned", "cost", "total", "share",
        "units", "unit", "unitOf", "value", "fault",
    };

    private final WidthMinimizer object = new WidthMinimizer();
    private final Model model = new Model();
    private final Random random;
    private final long seed;
    private int calls = 0;
    private boolean isRight = true;

    private RandomRunsTest(long seed) {
        this.seed = seed;
        this.random = new Random(seed);
    }

    public static void main(String[] args) {
        int runs = args.length > 0 ? Integer.parseInt(args[0]) : RUNS;
        for (Method method : WidthMinimizer.class.getMethods()) {
            if (method.getDeclaringClass() == WidthMinimizer.class) {
                OF_CLASS.put(method.getName(), method);
                OF_MODEL.put(method.getName(), modelled(method));
            }
        }
        for (int seed = 1; seed <= runs; seed++) {
            new RandomRunsTest(seed).run();
        }
        Script.finish();
    }

    private static Method modelled(Method method) {
        try {
            return Model.class.getDeclaredMethod(method.getName(), method.getParameterTypes());
        } catch (NoSuchMethodException e) {
            throw new IllegalStateException(e);
        }
    }

    private static String answer(Method method, Object target, Object[] arguments) {
        try {
            return String.valueOf(method.invoke(target, arguments));
        } catch (InvocationTargetException e) {
            return "throws." + e.getCause().getClass().getSimpleName();
        } catch (IllegalAccessException e) {
            throw new IllegalStateException(e);
        }
    }

    private void call(String name, Object... arguments) {
        calls++;
        String got = answer(OF_CLASS.get(name), object, arguments);
        String due = answer(OF_MODEL.get(name), model, arguments);
        if (isRight && !got.equals(due)) {
            isRight = false;
            Script.report("seed " + seed + ", call " + calls + ": " + name + Arrays.toString(arguments)
                    + " answered " + got + ", by the model " + due);
        }
    }

    private void run() {
        int most = MAX_CALLS - 100;
        int signals = random.nextInt(25);
        for (int i = 0; i < signals; i++) {
            addSignal();
        }
        for (int i = 0; i < signals; i++) {
            connect();
        }
        while (calls < most && isRight) {
            int draw = random.nextInt(100);
            if (draw < 60) {
                question();
            } else if (draw < 75) {
                change();
            } else if (draw < 90) {
                execute();
            } else {
                readText();
            }
        }
    }

    private int among(int bound) {
        return random.nextInt(bound);
    }

    /** Mostly a signal that exists. */
    private int someSignal() {
        return among(20) == 0 ? among(30) - 3 : among(Math.max(1, model.count()));
    }

    private int someConstant() {
        switch (among(12)) {
            case 0: return among(9000) - 4500;
            case 1: return among(2) == 0 ? -4096 : 4095;
            case 2: return among(2) == 0 ? -4097 : 4096;
            case 3: return 0;
            case 4: return (1 << among(12)) - among(2);
            case 5: return -(1 << among(12)) - among(2);
            default: return among(41) - 20;
        }
    }

    private void addSignal() {
        int kind = among(30) == 0 ? among(17) - 2 : model.count() < 3 ? among(3) : among(13);
        if (kind <= 2) {
            int a = someConstant();
            call("add", kind, a, among(15) == 0 ? someConstant() : Math.min(4095, a + among(50)), among(9));
        } else if (kind == 9 || kind == 10) {
            call("add", kind, someSignal(), among(15) == 0 ? among(20) - 2 : among(16), among(9));
        } else {
            call("add", kind, someSignal(), someSignal(), someSignal());
        }
    }

    private int someRegister() {
        for (int i = 0; i < 30; i++) {
            int signal = someSignal();
            if (signal >= 0 && signal < model.count() && model.signal(signal, 0) == 2) {
                return signal;
            }
        }
        return someSignal();
    }

    private void connect() {
        switch (among(3)) {
            case 0: call("setNext", someRegister(), someSignal()); break;
            case 1: call("setOutput", someSignal(), among(4) != 0); break;
            default: call("setPhase", someSignal(), among(15) == 0 ? among(8) - 2 : among(4)); break;
        }
    }

    private void change() {
        switch (among(40)) {
            case 0: call("clear"); break;
            case 1: case 2: case 3: call("restoreSnapshot"); break;
            case 4: case 5: case 6: call("saveSnapshot"); break;
            case 7: case 8: case 9: case 10: call("removeLast"); break;
            case 11: case 12: case 13: case 14: case 15: case 16: case 17: case 18: addSignal(); break;
            default: connect(); break;
        }
    }

    private void execute() {
        switch (among(5)) {
            case 0: call("run", among(15) == 0 ? among(300) - 50 : 1 + among(9)); break;
            case 1: call("restart"); break;
            default:
                int signal = someSignal();
                boolean isInput = signal >= 0 && signal < model.count() && model.signal(signal, 0) == 0;
                int value = someConstant();
                if (isInput && among(4) != 0) {
                    int least = model.signal(signal, 1);
                    value = least + among(model.signal(signal, 2) - least + 1);
                }
                call("setInput", signal, value);
                break;
        }
    }

    private void question() {
        String name = QUESTIONS[among(QUESTIONS.length)];
        switch (name) {
            case "count": case "rounds": case "share": case "units": call(name); break;
            case "range": case "width": case "value": call(name, someSignal(), among(2) == 0); break;
            case "demanded": case "isSigned": case "cost": case "unitOf": call(name, someSignal()); break;
            case "total": call(name, among(20) == 0 ? among(9) - 2 : among(5)); break;
            case "signal": call(name, someSignal(), among(20) == 0 ? among(12) - 3 : among(7)); break;
            case "unit": call(name, among(5) - among(2), among(20) == 0 ? among(9) - 2 : among(5)); break;
            default: call(name, among(20) == 0 ? among(6) - 2 : among(3), among(20) == 0 ? among(5) - 2 : among(2));
        }
    }

    private void readText() {
        StringBuilder text = new StringBuilder();
        int items = among(6) == 0 ? 0 : 1 + among(5);
        int known = model.count();
        for (int i = 0; i < items; i++) {
            text.append(i == 0 ? "" : ";");
            known += appendItem(text, known) ? 1 : 0;
        }
        if (among(4) == 0 && text.length() > 0) {
            String signs = "0123456789ikrnolh+-*&|^<?:;x ";
            char sign = signs.charAt(among(signs.length()));
            if (among(2) == 0) {
                text.setCharAt(among(text.length()), sign);
            } else {
                text.insert(among(text.length() + 1), sign);
            }
        }
        for (int i = 0; i < text.length(); i++) {
            call("feed", text.charAt(i));
        }
        if (among(10) != 0) {
            call("read");
            for (int level = 0; level < 3; level++) {
                call("fault", level, 0);
                call("fault", level, 1);
            }
        }
    }

    private boolean appendItem(StringBuilder text, int known) {
        int bound = Math.max(1, among(20) == 0 ? known + 2 : known);
        switch (among(8)) {
            case 0:
                int a = someConstant();
                text.append('i').append(a).append(':').append(among(10) == 0 ? someConstant() : a + among(30));
                return true;
            case 1: text.append('k').append(someConstant()); return true;
            case 2: text.append('r').append(someConstant()); return true;
            case 3: text.append('o').append(among(bound)); return false;
            case 4: text.append('n').append(someRegister()).append(':').append(among(bound)); return false;
            case 5:
                text.append(among(bound)).append(among(2) == 0 ? 'l' : 'h').append(among(17));
                return true;
            case 6:
                text.append(among(bound)).append('?').append(among(bound)).append(':').append(among(bound));
                return true;
            default:
                text.append(among(bound)).append("+-*&|^<".charAt(among(7))).append(among(bound));
                return true;
        }
    }
}
