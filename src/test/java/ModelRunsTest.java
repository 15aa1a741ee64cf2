import java.lang.reflect.InvocationTargetException;
import java.lang.reflect.Method;
import java.util.Arrays;
import java.util.HashMap;
import java.util.List;
import java.util.Map;
import java.util.Random;

/** Long runs of calls, the same ones each time, that LoadStoreRows and PlainModel must answer alike. */
public final class ModelRunsTest {
    private static final int RUNS = 3000;
    private static final int CALLS = 512;
    private static final int[] ODD = {-1, 4096, 4095, 3071, 256, 64, 4, Integer.MIN_VALUE, Integer.MAX_VALUE};
    private static final String[] MUST_BE_SEEN = {
        "tried 1", "tried 2", "tried 3", "tried 4", "address undid 1", "address undid more", "other undid 1",
        "other undid more", "leave some", "leave -1", "drain some", "drain -1", "forget some", "source some",
        "source -1", "loaded some", "op throws.UnsupportedOperationException",
        "loaded throws.IllegalStateException", "loaded throws.IllegalArgumentException",
        "source throws.IllegalStateException", "marked true"};

    private record Step(String name, int... args) {
        String told() {
            return name + Arrays.toString(args);
        }

        String answerOf(Object target) {
            try {
                Class<?>[] types = new Class<?>[args.length];
                Arrays.fill(types, int.class);
                Method method = target.getClass().getDeclaredMethod(name, types);
                return String.valueOf(method.invoke(target, Arrays.stream(args).boxed().toArray()));
            } catch (InvocationTargetException e) {
                return "throws." + e.getCause().getClass().getSimpleName();
            } catch (ReflectiveOperationException e) {
                throw new AssertionError(e);
            }
        }
    }

    private final Random random;
    private final LoadStoreRows rows = new LoadStoreRows();
    private final PlainModel model = new PlainModel();
    private final Map<String, Integer> seen;
    private final int wild;
    private final String kinds;
    private final int leaves;
    private final int comes;

    private ModelRunsTest(int seed, Map<String, Integer> seen) {
        this.random = new Random(seed);
        this.seen = seen;
        // many wrong calls; or fences that leave at once, for many ops; or a full house; or few fences
        this.wild = seed % 5 == 0 ? 20 : 2;
        this.kinds = seed % 4 == 0 ? "2222222222222203" : seed % 4 == 1 ? "0000000111111123" : "0000000011111111";
        this.leaves = seed % 4 == 0 ? 200 : seed % 4 == 3 ? 40 : 10;
        this.comes = seed % 4 == 0 ? 200 : 0;
    }

    public static void main(String[] args) {
        Map<String, Integer> seen = new HashMap<>();
        boolean alike = true;
        for (int seed = 0; seed < RUNS && alike; seed++) {
            alike = new ModelRunsTest(seed, seen).run(seed);
        }
        Check.due("runs alike", alike, true);
        for (String answer : MUST_BE_SEEN) {
            // runs that never come to a rule test nothing of it
            Check.due("often enough: " + answer, seen.getOrDefault(answer, 0) >= 200, true);
        }
        Check.end();
    }

    private boolean run(int seed) {
        StringBuilder trail = new StringBuilder();
        for (int call = 0; call < CALLS; call++) {
            Step step = nextStep();
            String got = step.answerOf(rows);
            String want = step.answerOf(model);
            trail.append(step.told()).append(" -> ").append(want).append('\n');
            seen.merge(summary(step.name(), want), 1, Integer::sum);
            if (!got.equals(want)) {
                System.out.println("run " + seed + ":\n" + trail + "but the program answered " + got);
                return false;
            }
        }
        return true;
    }

    private static String summary(String name, String answer) {
        boolean asItIs = answer.startsWith("throws.") || answer.equals("-1") || answer.equals("0");
        if (asItIs || name.equals("tried") || name.equals("marked")) {
            return name + " " + answer;
        }
        if (name.equals("address") || name.equals("other")) {
            return name + (answer.equals("1") ? " undid 1" : " undid more");
        }
        return name + " some";
    }

    private Step nextStep() {
        int pick = random.nextInt(160 + leaves + comes);
        if (pick >= 160 + comes) {
            return new Step("leave");
        }
        if (pick < 30 || pick >= 160) {
            return newOp();
        }
        return pick < 110 ? telling(pick) : asking(pick);
    }

    private Step newOp() {
        int kind = isWild() ? random.nextInt(7) - 1 : kinds.charAt(random.nextInt(kinds.length())) - '0';
        int bytes = isWild() ? random.nextInt(7) - 1 : kind == 2 ? 0 : 1 << random.nextInt(3);
        return new Step("op", kind, bytes, program());
    }

    private Step telling(int pick) {
        if (pick < 60) {
            return new Step("address", someOp("address"), place());
        }
        if (pick < 80) {
            return new Step("number", someOp("number"), random.nextInt());
        }
        return new Step("tried", someOp("tried"));
    }

    private Step asking(int pick) {
        if (pick < 115) {
            return new Step("loaded", someOp("loaded"));
        }
        if (pick < 120) {
            return new Step("loaded", model.count(0) - 62 - random.nextInt(5));
        }
        if (pick < 128) {
            return new Step("source", someOp("source"), random.nextInt(6) - 1);
        }
        if (pick < 138) {
            return new Step("drain");
        }
        if (pick < 142) {
            return new Step("other", place(), isWild() ? place() : random.nextInt(256));
        }
        if (pick < 147) {
            return new Step("memory", place());
        }
        if (pick < 149) {
            return new Step("forget", someOp("forget"));
        }
        return pick < 152 ? new Step("marked", program()) : new Step("count", random.nextInt(12) - 1);
    }

    private boolean isWild() {
        return random.nextInt(100) < wild;
    }

    private int program() {
        return random.nextInt(4) == 0 ? random.nextInt() : random.nextInt(6);
    }

    private int someOp(String name) {
        if (isWild()) {
            int came = model.count(0);
            return random.nextInt(3) == 0 ? ODD[random.nextInt(ODD.length)] : random.nextInt(came + 2);
        }
        List<Integer> meant = model.meantFor(name);
        if (meant.isEmpty()) {
            return model.count(0) - 1;
        }
        // the newest often: addresses that come late are what makes loads wrong
        return meant.get(meant.size() - 1 - random.nextInt(random.nextInt(meant.size()) + 1));
    }

    /** Few places, so that ops meet there. */
    private int place() {
        if (isWild()) {
            return random.nextInt(3) == 0 ? ODD[random.nextInt(ODD.length)] : random.nextInt(5000) - 400;
        }
        return (random.nextInt(12) == 0 ? 3066 : 0) + random.nextInt(10);
    }
}
