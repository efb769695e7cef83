import java.nio.charset.StandardCharsets;
import java.util.function.Consumer;
import java.util.function.Supplier;
import java.util.function.ToIntFunction;

/** Counts the answers that are not the ones that are due, and tells them. */
final class Check {
    private static int wrong = 0;

    private Check() {
    }

    static void due(String call, long want, long got) {
        if (got != want) tell(call + " answered " + got + ", due is " + want);
    }

    static void due(String call, boolean want, boolean got) {
        if (got != want) tell(call + " answered " + got + ", due is " + want);
    }

    static void due(String call, String want, String got) {
        if (!want.equals(got)) tell(call + " answered " + got + ", due is " + want);
    }

    static void dueExactly(String call, double want, double got) {
        if (Double.compare(want, got) != 0) tell(call + " answered " + got + ", due is " + want);
    }

    /** The class of what is thrown must be the very one, none below it. */
    static void dueThrow(String call, Class<? extends RuntimeException> want, Runnable run) {
        String got = "nothing";
        try {
            run.run();
        } catch (RuntimeException e) {
            got = e.getClass().getSimpleName();
        }
        if (!got.equals(want.getSimpleName())) {
            tell(call + " threw " + got + ", due is " + want.getSimpleName());
        }
    }

    static void dueOutOfBounds(String call, Runnable run) {
        dueThrow(call, IndexOutOfBoundsException.class, run);
    }

    static void dueIllegal(String call, Runnable run) {
        dueThrow(call, IllegalArgumentException.class, run);
    }

    /** As the terms say of every method: one that throws changes nothing. */
    static void dueThrowAndNoChange(String call, Class<? extends RuntimeException> want,
            Supplier<HomeworkBarter> make, Consumer<HomeworkBarter> run) {
        Parts.dueSame(call, make, x -> dueThrow(call, want, () -> run.accept(x)));
    }

    /** A refused act answers minus the reason, and changes nothing but the counter of its reason. */
    static void dueRefusal(String call, int reason, Supplier<HomeworkBarter> make,
            ToIntFunction<HomeworkBarter> run) {
        Parts before = Parts.of(make, x -> { });
        Parts after = Parts.of(make, x -> due(call, -reason, run.applyAsInt(x)));
        Parts.dueSame(call, before, after, Parts.REFUSALS);
        String[] counters = before.of(Parts.REFUSALS).split(" ");
        counters[reason - 1] = String.valueOf(Integer.parseInt(counters[reason - 1]) + 1);
        due(Parts.REFUSALS + " behind " + call, String.join(" ", counters) + " ", after.of(Parts.REFUSALS));
    }

    /** A call that only answers. */
    static void dueNoChange(String call, Supplier<HomeworkBarter> make, Consumer<HomeworkBarter> run) {
        Parts.dueSame(call, make, run);
    }

    static void tell(String message) {
        wrong++;
        System.out.println(message);
    }

    static void end() {
        if (wrong > 0) {
            System.out.println(wrong + " answers are not as due");
            System.exit(1);
        }
    }

    // ---- what most tests do with an object

    /** Makes this the whole text buffer. */
    static void putText(HomeworkBarter x, String text) {
        putBytes(x, text.getBytes(StandardCharsets.ISO_8859_1));
    }

    static void putBytes(HomeworkBarter x, byte[] bytes) {
        x.truncateText(0);
        for (int i = 0; i < bytes.length; i += 4) {
            int four = 0;
            for (int k = i; k < i + 4; k++) four = four << 8 | (k < bytes.length ? bytes[k] & 255 : 0);
            x.appendText(four);
        }
        x.truncateText(bytes.length);
    }

    static int load(HomeworkBarter x, String setup) {
        putText(x, setup);
        return x.load();
    }

    static int play(HomeworkBarter x, String script) {
        putText(x, script);
        return x.play();
    }

    static HomeworkBarter school(String setup) {
        HomeworkBarter x = new HomeworkBarter();
        if (load(x, setup) < 0) tell("the setup of a test is wrong: " + setup);
        return x;
    }

    static HomeworkBarter school(String setup, String script) {
        HomeworkBarter x = school(setup);
        if (play(x, script) < 0) tell("the script of a test is wrong: " + script);
        return x;
    }

    /** All of the state, as the methods tell it. */
    static String state(HomeworkBarter x) {
        StringBuilder all = new StringBuilder();
        for (int what = 0; what < 12; what++) all.append(x.count(what)).append(' ');
        all.append("tallies ");
        for (int what = 0; what < 10; what++) all.append(x.tally(what)).append(' ');
        for (int pupil = 0; pupil < x.count(0); pupil++) {
            all.append("pupil ");
            for (int what = 0; what < 14; what++) all.append(x.pupil(pupil, what)).append(' ');
            for (int subject = 0; subject < 2; subject++) {
                all.append("pieces ");
                int pieces = x.pupil(pupil, 9 + subject);
                for (int place = 0; place < pieces; place++) all.append(x.piece(pupil, subject, place)).append(' ');
            }
            for (int place = 0; x.witness(pupil, place) >= 0; place++) all.append('w').append(x.witness(pupil, place));
        }
        for (int debt = 0; debt < x.count(8); debt++) {
            all.append("debt ");
            for (int what = 0; what < 4; what++) all.append(x.debt(debt, what)).append(' ');
        }
        return all.toString();
    }

    /** What the methods tell that reckon with the state. */
    static String answers(HomeworkBarter x) {
        StringBuilder all = new StringBuilder();
        int pupils = x.count(0);
        for (int pupil = 0; pupil < pupils; pupil++) all.append(answersOf(x, pupil, (pupil + 1) % pupils));
        for (int what = 0; what < 5; what++) all.append(" most ").append(x.most(what));
        for (int place = 0; place <= pupils; place++) {
            all.append(" ranked ").append(x.ranked(0, place)).append(' ').append(x.ranked(1, place));
        }
        for (int debt = 0; debt < x.count(8); debt++) all.append(" canPay ").append(x.canPay(debt));
        all.append(" mostOf ").append(x.mostOf(0)).append(' ').append(x.mostOf(1));
        all.append(" gap ").append(x.gap()).append(" meanMarks ").append(x.meanMarks());
        for (int pupil = 0; pupil < pupils; pupil++) all.append(" freeIn ").append(x.freeIn(pupil));
        for (int what = 0; what < 4; what++) {
            all.append(" ifPassed ").append(x.ifPassed(1, what)).append(' ').append(x.ifPassed(9, what));
        }
        return all.toString();
    }

    private static String answersOf(HomeworkBarter x, int pupil, int other) {
        StringBuilder all = new StringBuilder(" of ").append(pupil).append(':');
        for (int subject = 0; subject < 2; subject++) {
            int[] told = {x.makers(pupil, subject), x.madeBy(pupil, subject, other), x.needs(pupil, subject),
                x.couldMake(pupil, subject), x.drownsIn(pupil, subject), x.owes(pupil, other, subject),
                x.whyLend(pupil, other, subject, 1), x.why(pupil, subject)};
            for (int one : told) all.append(' ').append(one);
        }
        int row = x.pupil(pupil, 0);
        int seat = x.pupil(pupil, 1);
        int[] told = {x.bench(row, seat), x.seers(pupil, other), x.nearTo(pupil, 0), x.nearTo(pupil, 1), x.debtOf(pupil, 0),
            x.debtOf(pupil, 1), x.ifWeek(pupil, 0), x.ifWeek(pupil, 1), x.ifWeek(pupil, 2),
            x.ifMoved(pupil, row, seat), x.whySwap(pupil, other, 1, 1), x.safestBench(pupil), x.safestPartner(pupil)};
        for (int one : told) all.append(' ').append(one);
        return all.append(' ').append(x.isNear(pupil, other)).append(' ').append(x.ownShare(pupil)).toString();
    }

    static String refusals(HomeworkBarter x) {
        StringBuilder all = new StringBuilder();
        for (int reason = 1; reason <= 10; reason++) all.append(x.refusals(reason)).append(' ');
        return all.toString();
    }

    static String output(HomeworkBarter x) {
        StringBuilder all = new StringBuilder();
        for (int i = 0; x.output(i) >= 0 && i < 1000; i++) all.append((char) x.output(i));
        return all.toString();
    }
}
