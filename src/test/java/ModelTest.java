import java.lang.reflect.InvocationTargetException;
import java.lang.reflect.Method;
import java.util.Arrays;
import java.util.HashMap;
import java.util.Map;
import java.util.Objects;

/** Promises 1 to 40: long runs of calls, each held against Model. The runs are always the same. */
public final class ModelTest {
    private static final int RUNS = 400;
    /** The digest at the end of a run is the 512th call: what later ones answer is free. */
    private static final int CALLS = 511;
    /** The calls, as often as they shall come. */
    private static final String[] CALLED = (
            "type type type type type type clear clear clear copy lay cut cut turn text order count find "
            + "rule rule rule falling falling falling falling falling drop noRules flip side rules "
            + "ruleText falls areFalling step step run pick unwind unwind spots spot isEnd form told "
            + "told peaks peak meets unmet complete complete tidy house knock isSound digest").split(" ");

    private final Map<String, Method> ofClass = methodsOf(Rewriterope.class);
    private final Map<String, Method> ofModel = methodsOf(Model.class);
    private long seed = 20261118;

    public static void main(String[] args) {
        ModelTest test = new ModelTest();
        for (int run = 0; run < RUNS; run++) {
            if (!test.isRunAsDue(run)) {
                System.exit(1);
            }
        }
        System.out.println("ModelTest: " + RUNS + " runs of " + (CALLS + 1) + " calls are as due");
    }

    private static Map<String, Method> methodsOf(Class<?> of) {
        Map<String, Method> methods = new HashMap<>();
        for (Method method : of.getDeclaredMethods()) {
            boolean isHelper = java.lang.reflect.Modifier.isPrivate(method.getModifiers());
            if (!isHelper) {
                methods.put(method.getName(), method);
            }
        }
        return methods;
    }

    private int below(int bound) {
        seed = seed * 6364136223846793005L + 1442695040888963407L;
        return (int) ((seed >>> 33) % bound);
    }

    private boolean isRunAsDue(int run) {
        Rewriterope x = new Rewriterope();
        Model y = new Model();
        // With few letters and short ropes rules overlap more and meet more.
        int letters = 1 + run % 4;
        StringBuilder told = new StringBuilder();
        for (int call = 0; call < CALLS; call++) {
            String name = CALLED[below(CALLED.length)];
            Method method = ofClass.get(name);
            Object[] with = arguments(method, letters);
            Object got = outcome(method, x, with);
            Object due = outcome(ofModel.get(name), y, with);
            told.append(name).append(Arrays.toString(with)).append(" = ").append(due).append('\n');
            if (!Objects.equals(got, due)) {
                System.out.println("run " + run + ":\n" + told + "but the class answered " + got);
                return false;
            }
        }
        if (x.digest() != y.digest()) {
            System.out.println("run " + run + ":\n" + told + "but another digest");
            return false;
        }
        return true;
    }

    private static Object outcome(Method method, Object on, Object[] with) {
        try {
            return method.invoke(on, with);
        } catch (InvocationTargetException e) {
            return "throws." + e.getCause().getClass().getSimpleName();
        } catch (IllegalAccessException e) {
            throw new IllegalStateException(e);
        }
    }

    /** Chooses what a call is made with: mostly what there is, now and then a wrong thing. */
    private Object[] arguments(Method method, int letters) {
        Class<?>[] types = method.getParameterTypes();
        Object[] with = new Object[types.length];
        boolean isWild = below(12) == 0;
        for (int i = 0; i < types.length; i++) {
            if (types[i] == boolean.class) {
                with[i] = below(2) == 0;
            } else {
                with[i] = isWild ? below(44) - 3 : number(method.getName(), i, letters);
            }
        }
        return with;
    }

    private int number(String name, int at, int letters) {
        switch (name) {
            case "type":
                return at == 0 ? below(4) : below(3) == 0 ? -1 : below(letters);
            case "run":
                return at == 0 ? below(4) : at == 1 ? below(3) : 1 + below(40);
            case "step":
                return at == 0 ? below(4) : below(3);
            case "pick": case "spot":
                return at == 0 ? below(4) : below(3) == 0 ? below(60) : below(4);
            case "drop": case "flip": case "ruleText": case "falls":
                return below(8);
            case "side": case "unwind":
                return at == 1 ? below(4) + below(3) : below(4);
            case "peak": case "meets":
                return below(2) == 0 ? below(8) : below(100);
            default:
                return below(4);
        }
    }
}
