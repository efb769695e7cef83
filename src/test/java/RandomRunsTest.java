import java.lang.reflect.InvocationTargetException;
import java.lang.reflect.Method;
import java.util.ArrayList;
import java.util.List;
import java.util.Random;

/** Runs of random calls, each done on a HomeworkBarter and on a Model: both must answer the same. */
public final class RandomRunsTest {
    private static final int RUNS = 4000;
    private static final int CALLS = 512;
    private static final String[] QUERIES = {
        "count", "tally", "pupil", "piece", "madeBy", "debt", "owes", "isNear", "witness", "bench", "seers", "why",
        "most", "ranked", "mostOf", "makers", "needs", "nearTo", "debtOf", "canPay", "refusals", "gap", "meanMarks",
        "ownShare", "couldMake", "ifWeek", "ifPassed", "freeIn", "ifMoved", "whySwap", "whyLend", "safestBench",
        "safestPartner", "drownsIn", "write", "output", "errorCode", "errorPosition"};

    private final Random random;
    private final HomeworkBarter real = new HomeworkBarter();
    private final Model model = new Model();
    private final List<String> calls = new ArrayList<>();
    private boolean differs = false;

    private RandomRunsTest(long seed) {
        random = new Random(seed);
    }

    public static void main(String[] args) throws ReflectiveOperationException {
        int runs = args.length > 0 ? Integer.parseInt(args[0]) : RUNS;
        for (int seed = 1; seed <= runs; seed++) {
            RandomRunsTest run = new RandomRunsTest(seed);
            run.go(seed);
            if (run.differs) break;
        }
        Check.end();
    }

    private void go(long seed) throws ReflectiveOperationException {
        if (random.nextInt(5) > 0) loadSetup();
        while (calls.size() < CALLS && !differs) {
            int dice = random.nextInt(100);
            if (dice < 50) act();
            else if (dice < 52) playScript();
            else if (dice == 52 && random.nextInt(4) == 0) loadSetup();
            else if (dice < 56) both("undo");
            else if (dice == 56) both(random.nextBoolean() ? "save" : "restore", near(0, 1));
            else if (dice == 57 && random.nextInt(4) == 0) touchText();
            else query();
        }
        if (differs) {
            Check.tell("seed " + seed + ":");
            for (String call : calls) System.out.println("  " + call);
        }
    }

    // ---- one call on both

    /** Nothing is promised behind the 512th call. */
    private void both(String name, int... arguments) throws ReflectiveOperationException {
        if (calls.size() >= CALLS) return;
        StringBuilder shown = new StringBuilder(name).append('(');
        for (int i = 0; i < arguments.length; i++) shown.append(i == 0 ? "" : ", ").append(arguments[i]);
        String got = answer(real, name, arguments);
        String want = answer(model, name, arguments);
        calls.add(shown.append(") -> ").append(got).append(got.equals(want) ? "" : ", due is " + want).toString());
        if (!got.equals(want)) differs = true;
    }

    private static String answer(Object x, String name, int[] arguments) throws ReflectiveOperationException {
        for (Method method : x.getClass().getDeclaredMethods()) {
            if (!method.getName().equals(name)) continue;
            Object[] boxed = new Object[arguments.length];
            for (int i = 0; i < boxed.length; i++) boxed[i] = arguments[i];
            try {
                return String.valueOf(method.invoke(x, boxed));
            } catch (InvocationTargetException e) {
                return "throws." + e.getCause().getClass().getSimpleName();
            }
        }
        throw new NoSuchMethodException(name);
    }

    // ---- arguments, now and then wrong ones

    private int near(int low, int high) {
        int dice = random.nextInt(60);
        if (dice == 0) return low - 1;
        if (dice == 1) return high + 1;
        if (dice == 2) return random.nextInt();
        if (dice == 3) return random.nextBoolean() ? Integer.MIN_VALUE : Integer.MAX_VALUE;
        return low + random.nextInt(Math.max(1, high - low + 1));
    }

    private int somePupil() {
        return near(0, model.count(0) - 1);
    }

    private int few() {
        return random.nextInt(4) == 0 ? near(1, 20) : near(1, 6);
    }

    private int[] someDebt() {
        int debts = model.count(8);
        if (debts == 0 || random.nextInt(10) == 0) return new int[] {somePupil(), somePupil(), near(0, 1), few()};
        int debt = random.nextInt(debts);
        int pieces = random.nextInt(3) == 0 ? model.debt(debt, 3) : few();
        return new int[] {model.debt(debt, 0), model.debt(debt, 1), model.debt(debt, 2), pieces};
    }

    private void act() throws ReflectiveOperationException {
        int dice = random.nextInt(40);
        if (dice < 10) both("work", somePupil(), near(0, 1), few());
        else if (dice < 16) both("swap", somePupil(), somePupil(), few() - 1, few() - 1);
        else if (dice < 25) both("lend", somePupil(), somePupil(), near(0, 1), few());
        else if (dice < 31) both("payBack", someDebt());
        else if (dice < 34) both("move", somePupil(), near(0, 5), near(0, 5));
        else if (dice < 36) both("confess", somePupil());
        else both("pass", random.nextInt(3) > 0 ? 1 : near(1, 10));
    }

    private void query() throws ReflectiveOperationException {
        String name = QUERIES[random.nextInt(QUERIES.length)];
        switch (name) {
            case "count": both(name, near(0, 12)); break;
            case "tally": both(name, near(0, 9)); break;
            case "pupil": both(name, somePupil(), near(0, 13)); break;
            case "piece": both(name, somePupil(), near(0, 1), near(0, 20)); break;
            case "madeBy": both(name, somePupil(), near(0, 1), somePupil()); break;
            case "debt": both(name, near(0, model.count(8) - 1), near(0, 3)); break;
            case "owes": both(name, somePupil(), somePupil(), near(0, 1)); break;
            case "canPay": both(name, near(0, model.count(8) - 1)); break;
            case "isNear":
            case "seers": both(name, somePupil(), somePupil()); break;
            case "witness":
            case "nearTo":
            case "debtOf": both(name, somePupil(), near(0, 4)); break;
            case "bench": both(name, near(0, 5), near(0, 5)); break;
            case "why":
            case "makers":
            case "needs":
            case "couldMake":
            case "drownsIn": both(name, somePupil(), near(0, 1)); break;
            case "most": both(name, near(0, 4)); break;
            case "ranked": both(name, near(0, 1), near(0, 12)); break;
            case "mostOf": both(name, near(0, 1)); break;
            case "refusals": both(name, near(1, 10)); break;
            case "ifWeek": both(name, somePupil(), near(0, 2)); break;
            case "ifPassed": both(name, near(0, 30), near(0, 3)); break;
            case "ifMoved": both(name, somePupil(), near(0, 5), near(0, 5)); break;
            case "whySwap": both(name, somePupil(), somePupil(), few() - 1, few() - 1); break;
            case "whyLend": both(name, somePupil(), somePupil(), near(0, 1), few()); break;
            case "output": both(name, near(0, 30)); break;
            case "ownShare":
            case "freeIn":
            case "safestBench":
            case "safestPartner":
            case "write": both(name, somePupil()); break;
            default: both(name);
        }
    }

    // ---- texts

    private void touchText() throws ReflectiveOperationException {
        if (random.nextBoolean()) both("appendText", random.nextInt());
        else both("truncateText", near(0, 8));
    }

    private void put(String text) throws ReflectiveOperationException {
        both("truncateText", 0);
        String padded = text + "\0\0\0";
        for (int i = 0; i < text.length(); i += 4) {
            int four = 0;
            for (int k = i; k < i + 4; k++) four = four << 8 | padded.charAt(k) & 255;
            both("appendText", four);
        }
        both("truncateText", Math.min(text.length(), 500));
    }

    private void loadSetup() throws ReflectiveOperationException {
        int most = random.nextInt(4) == 0 ? 10 + random.nextInt(4) : 2 + random.nextInt(7);
        StringBuilder text = new StringBuilder("school");
        boolean isEasy = random.nextBoolean();
        number(text, isEasy ? 60 : 10 + random.nextInt(51));
        number(text, 1 + random.nextInt(isEasy ? 20 : 8));
        number(text, random.nextInt(isEasy ? 3 : 10));
        number(text, random.nextInt(isEasy ? 3 : 10));
        text.append(random.nextBoolean() ? ";" : " ;");
        List<Integer> benches = new ArrayList<>();
        for (int i = 0; i < 36; i++) benches.add(i);
        int spread = random.nextBoolean() ? 36 : 16;
        java.util.Collections.shuffle(benches.subList(0, spread), random);
        for (int i = 0; i < most; i++) {
            int bench = random.nextInt(150) == 0 ? benches.get(0) : benches.get(i);
            text.append(random.nextBoolean() ? "pupil" : "\npupil");
            number(text, bench / 6);
            number(text, bench % 6);
            number(text, isEasy ? 8 + random.nextInt(2) : 1 + random.nextInt(9));
            number(text, isEasy ? 8 + random.nextInt(2) : 1 + random.nextInt(9));
            text.append(random.nextInt(4) == 0 ? " spy;" : ";");
        }
        if (random.nextInt(4) == 0) spoil(text);
        put(text.toString());
        both("load");
        both("errorCode");
        both("errorPosition");
    }

    private void number(StringBuilder text, int n) {
        int dice = random.nextInt(40);
        text.append(dice == 0 ? " 0" : dice == 1 ? "\n 000" : " ").append(n);
    }

    private void playScript() throws ReflectiveOperationException {
        int most = random.nextInt(15) == 0 ? 24 + random.nextInt(4) : 1 + random.nextInt(4);
        StringBuilder text = new StringBuilder();
        for (int i = 0; i < most; i++) {
            int dice = most > 20 ? 7 + random.nextInt(3) : random.nextInt(12);
            int[] debt = someDebt();
            String subject = random.nextBoolean() ? " sums " : " verses ";
            String one = " " + (somePupil() & 15) + " ";
            String other = (somePupil() & 15) + "";
            if (dice < 4) text.append("work").append(one).append(subject).append(few());
            else if (dice < 5) text.append("swap").append(one).append(other).append(" 1 ").append(few() - 1);
            else if (dice < 6) text.append("lend").append(one).append(other).append(subject).append(few());
            else if (dice < 7) {
                text.append("pay ").append(debt[0]).append(' ').append(debt[1]);
                text.append(debt[2] == 0 ? "sums" : " verses").append(debt[3]);
            }
            else if (dice < 8) text.append("move").append(one).append(near(0, 5)).append(' ').append(near(0, 5));
            else if (dice < 9) text.append("confess").append(one);
            else text.append("pass ").append(near(1, 2));
            text.append(';');
        }
        if (random.nextInt(3) == 0) spoil(text);
        put(text.toString());
        both("play");
        both("errorCode");
        both("errorPosition");
    }

    private void spoil(StringBuilder text) {
        String signs = "  ;;0123456789az\n\t\rA-{`/:\u00ff\u0000\u0080";
        int at = random.nextInt(text.length());
        int dice = random.nextInt(4);
        if (dice == 0) text.deleteCharAt(at);
        else if (dice == 1) text.setCharAt(at, signs.charAt(random.nextInt(signs.length())));
        else if (dice == 2) text.insert(at, signs.charAt(random.nextInt(signs.length())));
        else text.setLength(at);
    }
}
