import java.util.function.ToIntFunction;

/** Promises 32 to 41: what would be and what will be. */
public final class ForesightTest {
    private static final String APART = "school 60 4 6 5;pupil 0 0 9 9;pupil 0 5 9 9;pupil 5 0 9 9;pupil 5 5 9 9;";
    private static final String WATCHED = "school 11 1 0 0;pupil 2 2 9 9;pupil 2 3 9 9;pupil 1 1 9 9 spy;"
        + "pupil 1 2 9 9 spy;pupil 1 3 9 9 spy;";

    public static void main(String[] args) {
        promise32();
        promise33();
        promise33Detention();
        promise34();
        promise35();
        promise36();
        promise37();
        promise38();
        promise39();
        promise40();
        promise41();
        nothingChanges();
        wrongArguments();
        Check.end();
    }

    private static String times(int times, String command) {
        return command.repeat(times);
    }

    private static void promise32() {
        HomeworkBarter x = new HomeworkBarter();
        Check.due("couldMake(0, 0): 30 / 2", 15, x.couldMake(0, 0));
        Check.due("couldMake(0, 1): 30 / 7", 4, x.couldMake(0, 1));
        Check.due("couldMake(1, 1): 30 / 1, more than a satchel holds", 30, x.couldMake(1, 1));
        Check.due("couldMake(4, 0): 30 / 9", 3, x.couldMake(4, 0));
        x.work(0, 0, 6);
        Check.due("couldMake(0, 0): 18 / 2", 9, x.couldMake(0, 0));
        Check.due("couldMake(0, 1): 18 / 7", 2, x.couldMake(0, 1));
        x.work(0, 0, 9);
        Check.due("couldMake(0, 1) without STRENGTH", 0, x.couldMake(0, 1));
    }

    private static void promise33() {
        HomeworkBarter x = Check.school(APART, "work 0 sums 20;work 1 sums 20;work 0 verses 20;work 1 verses 20;");
        dueIfWeek("without a piece", x, 2, 11, 0, 0);
        x.lend(0, 2, 0, 2);
        dueIfWeek("two sums", x, 2, 9, 0, 0);
        x.lend(0, 2, 0, 1);
        dueIfWeek("three sums", x, 2, 8, 1, 0);
        x.lend(1, 2, 0, 2);
        dueIfWeek("five sums of two", x, 2, 6, 1, 0);
        x.lend(1, 2, 0, 1);
        dueIfWeek("six sums of two", x, 2, 5, 2, 0);
        x.lend(1, 2, 0, 3);
        dueIfWeek("nine sums, of which six are due", x, 2, 5, 2, 0);
        x.lend(0, 2, 1, 1);
        dueIfWeek("and one verse", x, 2, 4, 2, 0);
        x.lend(1, 2, 1, 1);
        dueIfWeek("and one verse of each", x, 2, 3, 2, 0);
        x.lend(0, 2, 1, 1);
        dueIfWeek("and two of one, one of the other", x, 2, 2, 3, 0);
        x.lend(1, 2, 1, 1);
        dueIfWeek("and two of each: the LIMIT", x, 2, 1, 4, 1);
        x.lend(1, 2, 1, 1);
        dueIfWeek("and two and three", x, 2, 0, 5, 1);
        x.lend(1, 2, 1, 1);
        dueIfWeek("and more than is due", x, 2, 0, 5, 1);
        dueIfWeek("its own ones", x, 0, 0, 0, 0);

        x.work(3, 0, 5);
        x.work(3, 1, 4);
        x.lend(0, 3, 0, 6);
        x.lend(0, 3, 1, 3);
        dueIfWeek("its own ones first, then others", x, 3, 0, 0, 0);
        dueIfWeekComesTrue(x);
        HomeworkBarter y = Check.school(APART, "work 0 sums 6;work 2 verses 2;swap 0 1 4 0;swap 1 0 3 0;");
        Check.due("its own sums that came back from another", 0, y.ifWeek(0, 1));
        dueIfWeekComesTrue(y);
    }

    private static void dueIfWeek(String what, HomeworkBarter x, int pupil, int marks, int growth, int detention) {
        Check.due("ifWeek(" + pupil + ", 0), " + what, marks, x.ifWeek(pupil, 0));
        Check.due("ifWeek(" + pupil + ", 1), " + what, growth, x.ifWeek(pupil, 1));
        Check.due("ifWeek(" + pupil + ", 2), " + what, detention, x.ifWeek(pupil, 2));
    }

    private static void dueIfWeekComesTrue(HomeworkBarter x) {
        int pupils = x.count(0);
        int[] marks = new int[pupils];
        int[] detention = new int[pupils];
        for (int i = 0; i < pupils; i++) marks[i] = x.pupil(i, 7) + x.ifWeek(i, 0);
        for (int i = 0; i < pupils; i++) detention[i] = x.ifWeek(i, 2);
        x.pass(1);
        for (int i = 0; i < pupils; i++) Check.due("MARKS of " + i + " behind the week", marks[i], x.pupil(i, 7));
        for (int i = 0; i < pupils; i++) Check.due("DETENTION of " + i, detention[i], x.pupil(i, 8));
    }

    /** Three spies see each barter of 0 and 1; LIMIT is 1. */
    private static void promise33Detention() {
        int[] detention = {0, 1, 2, 3, 4, 5, 6, 7, 8, 9, 9, 9};
        HomeworkBarter x = Check.school(WATCHED);
        for (int swaps = 0; swaps < 12; swaps++) {
            Check.due("PROOF behind " + swaps + " swaps", 3 * swaps, x.pupil(0, 6));
            Check.due("ifWeek(0, 2) behind " + swaps + " swaps", detention[swaps], x.ifWeek(0, 2));
            x.swap(0, 1, 0, 0);
        }
        x.pass(1);
        for (int left = 9; left > 0; left--) {
            Check.due("DETENTION", left, x.pupil(0, 8));
            Check.due("ifWeek(0, 2)", left - 1, x.ifWeek(0, 2));
            x.pass(1);
        }
        Check.due("ifWeek(0, 2) as it is free", 0, x.ifWeek(0, 2));
    }

    private static void promise34() {
        HomeworkBarter x = new HomeworkBarter();
        for (int weeks : new int[] {0, 1, 2, 29, 30}) {
            Check.due("ifPassed(" + weeks + ", 0)", 15 * weeks, x.ifPassed(weeks, 0));
            Check.due("ifPassed(" + weeks + ", 1)", 0, x.ifPassed(weeks, 1));
        }
        Check.play(x, "work 0 sums 15;work 1 verses 20;lend 0 3 sums 5;lend 1 4 verses 2;");
        // 10 + 5 sums at two a week; 18 + 2 verses at one a week; the spies 2 and 4 saw 0, 1 and 3.
        int[] marks = {0, 9, 18, 29, 41};
        int[] owed = {7, 9, 11, 13, 15};
        int[] pieces = {35, 29, 23, 19, 16};
        for (int weeks = 0; weeks < 5; weeks++) {
            Check.due("ifPassed(" + weeks + ", 0)", marks[weeks], x.ifPassed(weeks, 0));
            Check.due("ifPassed(" + weeks + ", 1)", owed[weeks], x.ifPassed(weeks, 1));
            Check.due("ifPassed(" + weeks + ", 2)", 0, x.ifPassed(weeks, 2));
            Check.due("ifPassed(" + weeks + ", 3)", pieces[weeks], x.ifPassed(weeks, 3));
        }
        HomeworkBarter y = Check.school(WATCHED, "work 0 sums 2;work 2 verses 3;" + times(9, "swap 0 1 0 0;"));
        int[] detained = {0, 2, 2, 2, 2, 2, 2, 2, 2, 2, 0, 0};
        for (int weeks = 0; weeks < 12; weeks++) {
            Check.due("ifPassed(" + weeks + ", 2)", detained[weeks], y.ifPassed(weeks, 2));
            Check.due("ifPassed(" + weeks + ", 3)", weeks == 0 ? 5 : 3, y.ifPassed(weeks, 3));
        }
        HomeworkBarter z = Check.school(APART, "work 0 sums 20;lend 0 1 sums 20;pass 10;pass 10;pass 10;pass 10;"
            + "pass 10;pass 10;pass 10;");
        Check.due("pieces owed", 90, z.count(9));
        Check.due("ifPassed(8, 1)", 98, z.ifPassed(8, 1));
        Check.due("ifPassed(9, 1)", 99, z.ifPassed(9, 1));
        Check.due("ifPassed(10, 1), 99 at most", 99, z.ifPassed(10, 1));
        Check.due("ifPassed(30, 1)", 99, z.ifPassed(30, 1));
    }

    private static void promise35() {
        HomeworkBarter x = Check.school(WATCHED, times(9, "swap 0 1 0 0;"));
        Check.due("freeIn(0), who will be punished", 0, x.freeIn(0));
        x.pass(1);
        for (int left = 9; left >= 0; left--) {
            Check.due("freeIn(0)", left, x.freeIn(0));
            Check.due("freeIn(2), a spy", 0, x.freeIn(2));
            x.pass(1);
        }
    }

    private static void promise36() {
        HomeworkBarter x = new HomeworkBarter();
        Check.due("ifMoved(0, 0, 1), which is taken", 1, x.ifMoved(0, 0, 1));
        Check.due("ifMoved(0, 0, 0), where it is", 1, x.ifMoved(0, 0, 0));
        Check.due("ifMoved(0, 1, 0), on a spy's bench", 1, x.ifMoved(0, 1, 0));
        Check.due("ifMoved(0, 2, 3), near one", 1, x.ifMoved(0, 2, 3));
        Check.due("ifMoved(0, 2, 2), near none", 0, x.ifMoved(0, 2, 2));
        Check.due("ifMoved(2, 0, 0), a spy does not count itself", 0, x.ifMoved(2, 0, 0));
        Check.due("ifMoved(2, 4, 5), a spy near another", 1, x.ifMoved(2, 4, 5));
        HomeworkBarter y = Check.school(WATCHED);
        Check.due("ifMoved(0, 0, 2)", 3, y.ifMoved(0, 0, 2));
        Check.due("ifMoved(0, 0, 3)", 2, y.ifMoved(0, 0, 3));
        y.swap(0, 3, 0, 0);
        y.pass(1);
        Check.due("DETENTION of the spy 3", 1, y.pupil(3, 8));
        Check.due("ifMoved(0, 0, 2): a detained spy does not count", 2, y.ifMoved(0, 0, 2));
    }

    private static void promise37() {
        HomeworkBarter x = Check.school(APART, "work 0 sums 20;work 1 verses 20;work 1 sums 19;work 0 verses 18;");
        Check.due("whySwap(0, 1, 1, 2)", 0, x.whySwap(0, 1, 1, 2));
        Check.due("whySwap(0, 1, 0, 0)", 0, x.whySwap(0, 1, 0, 0));
        Check.due("whySwap(0, 0, 20, 20)", 5, x.whySwap(0, 0, 20, 20));
        Check.due("whySwap(2, 1, 1, 0): sums of the one", 4, x.whySwap(2, 1, 1, 0));
        Check.due("whySwap(0, 2, 0, 1): verses of the other", 4, x.whySwap(0, 2, 0, 1));
        Check.due("whySwap(0, 1, 2, 0): sums of the other", 3, x.whySwap(0, 1, 2, 0));
        Check.due("whySwap(0, 1, 0, 3): verses of the one", 3, x.whySwap(0, 1, 0, 3));
        Check.due("whySwap(1, 0, 20, 19): 4 ahead of 3", 4, x.whySwap(1, 0, 20, 19));
        HomeworkBarter y = Check.school(WATCHED, "swap 0 3 0 0;pass 1;");
        Check.due("whySwap(0, 1, 9, 9): 1 ahead of 4", 1, y.whySwap(0, 1, 9, 9));
        Check.due("whySwap(1, 0, 0, 0)", 1, y.whySwap(1, 0, 0, 0));
        Check.due("whySwap(0, 0, 0, 0): 5 ahead of 1", 5, y.whySwap(0, 0, 0, 0));
        Check.due("whySwap(1, 2, 0, 0)", 0, y.whySwap(1, 2, 0, 0));
        Check.due("whySwap counts no refusal", "0 0 0 0 0 0 0 0 0 0 ", Check.refusals(x));
    }

    private static void promise38() {
        HomeworkBarter x = Check.school(APART, "work 0 sums 20;work 1 verses 20;work 1 sums 19;");
        Check.due("whyLend(0, 1, 0, 1)", 0, x.whyLend(0, 1, 0, 1));
        Check.due("whyLend(0, 0, 0, 1)", 5, x.whyLend(0, 0, 0, 1));
        Check.due("whyLend(0, 1, 1, 1)", 4, x.whyLend(0, 1, 1, 1));
        Check.due("whyLend(0, 1, 0, 2)", 3, x.whyLend(0, 1, 0, 2));
        Check.due("whyLend(1, 0, 0, 20): 4 ahead of 3", 4, x.whyLend(1, 0, 0, 20));
        HomeworkBarter y = Check.school(WATCHED, "swap 0 3 0 0;pass 1;");
        Check.due("whyLend(0, 1, 0, 9): 1 ahead of 4", 1, y.whyLend(0, 1, 0, 9));
        Check.due("whyLend(1, 0, 0, 9)", 1, y.whyLend(1, 0, 0, 9));
        Check.due("whyLend(3, 3, 0, 9): 5 ahead of 1", 5, y.whyLend(3, 3, 0, 9));
        HomeworkBarter z = Check.school(APART, "work 0 sums 20;work 2 sums 20;lend 0 1 sums 20;pass 10;pass 10;"
            + "pass 10;pass 10;pass 10;pass 10;pass 10;work 0 sums 20;work 1 sums 15;");
        Check.due("what 1 owes 0", 90, z.owes(1, 0, 1));
        Check.due("whyLend(0, 1, 0, 9) into a satchel with 15", 3, z.whyLend(0, 1, 0, 9));
        z.pass(5);
        Check.due("whyLend(0, 1, 0, 1) without pieces", 4, z.whyLend(0, 1, 0, 1));
        z.work(0, 0, 5);
        Check.due("whyLend(0, 1, 0, 4): to 99", 0, z.whyLend(0, 1, 0, 4));
        Check.due("whyLend(0, 1, 0, 5): to 100", 9, z.whyLend(0, 1, 0, 5));
        Check.due("whyLend(0, 2, 0, 5)", 0, z.whyLend(0, 2, 0, 5));
        Check.due("whyLend counts no refusal", "0 0 0 0 0 0 0 0 0 0 ", Check.refusals(z));
    }

    private static void promise39() {
        HomeworkBarter x = new HomeworkBarter();
        Check.due("safestBench(0): the first of those near none", 2, x.safestBench(0));
        Check.due("safestBench(2): a spy is none to itself", 2, x.safestBench(2));
        x.move(2, 0, 3);
        Check.due("safestBench(2) without itself", 2, x.safestBench(2));
        Check.due("safestBench(1): two SEATS from the spy", 5, x.safestBench(1));
        x.move(1, 5, 5);
        x.move(0, 1, 1);
        Check.due("safestBench(1): the bench 0", 0, x.safestBench(1));
        HomeworkBarter y = Check.school("school 10 1 0 0;pupil 0 0 1 1;pupil 1 1 1 1 spy;pupil 1 4 1 1 spy;"
            + "pupil 4 1 1 1 spy;pupil 4 4 1 1 spy;pupil 2 5 1 1 spy;pupil 5 5 1 1 spy;pupil 3 3 1 1 spy;");
        Check.due("safestBench(0): near one at least", 1, y.safestBench(0));
        HomeworkBarter z = Check.school("school 10 1 0 0;pupil 0 5 1 1;pupil 0 4 1 1;pupil 0 1 1 1 spy;");
        Check.due("safestBench(0)", 3, z.safestBench(0));
        z.swap(1, 2, 0, 0);
        z.swap(0, 1, 0, 0);
        z.pass(1);
        Check.due("nobody is detained", 0, z.count(10));
        HomeworkBarter two = Check.school("school 10 1 0 0;pupil 0 5 1 1;pupil 0 1 1 1 spy;pupil 1 1 1 1 spy;");
        Check.due("safestBench(0)", 3, two.safestBench(0));
        two.swap(0, 1, 0, 0);
        two.pass(1);
        Check.due("the spy 1 is detained", 1, two.pupil(1, 8));
        two.move(2, 5, 5);
        Check.due("safestBench(0): a detained spy does not count", 0, two.safestBench(0));
    }

    private static void promise40() {
        HomeworkBarter x = new HomeworkBarter();
        Check.due("safestPartner(0): the spy itself, who is none of both", 2, x.safestPartner(0));
        Check.due("safestPartner(3): of several the lowest", 4, x.safestPartner(3));
        Check.due("safestPartner(4), a spy with a spy", 2, x.safestPartner(4));
        HomeworkBarter y = Check.school(WATCHED, "swap 0 3 0 0;pass 1;");
        Check.due("safestPartner(1): a detained spy sees nothing", 4, y.safestPartner(1));
        Check.due("safestPartner(0), though it is detained", 2, y.safestPartner(0));
        HomeworkBarter z = Check.school("school 10 1 0 0;pupil 0 0 1 1;pupil 0 1 1 1;pupil 1 1 1 1 spy;",
            "swap 0 1 0 0;pass 1;");
        Check.due("safestPartner(2): all others are detained", -1, z.safestPartner(2));
        Check.due("safestPartner(0): the one who is not", 2, z.safestPartner(0));
        HomeworkBarter gone = Check.school("school 10 1 0 0;pupil 0 0 1 1;pupil 0 1 1 1;pupil 1 1 1 1 spy;pupil 5 5 1 1;",
            "swap 0 1 0 0;pass 1;move 2 3 0;");
        Check.due("safestPartner(3): the lowest who is not detained", 2, gone.safestPartner(3));
        HomeworkBarter plain = Check.school(APART);
        Check.due("safestPartner(0) without spies", 1, plain.safestPartner(0));
        Check.due("safestPartner(1) without spies", 0, plain.safestPartner(1));
    }

    private static void promise41() {
        HomeworkBarter x = Check.school(APART, "work 0 sums 20;work 1 sums 20;work 2 sums 20;work 1 verses 20;");
        Check.due("drownsIn(3, 1) without a debt", -1, x.drownsIn(3, 1));
        x.lend(0, 3, 0, 1);
        Check.due("drownsIn(3, 1): 1 piece", 20, x.drownsIn(3, 1));
        Check.due("drownsIn(3, 0): another subject", -1, x.drownsIn(3, 0));
        Check.due("drownsIn(0, 1): what is owed to it", -1, x.drownsIn(0, 1));
        x.lend(1, 3, 0, 1);
        Check.due("drownsIn(3, 1): 1 and 1", 10, x.drownsIn(3, 1));
        x.lend(2, 3, 0, 1);
        Check.due("drownsIn(3, 1): 1, 1 and 1 are 21 in 6", 6, x.drownsIn(3, 1));
        x.lend(0, 3, 0, 16);
        Check.due("drownsIn(3, 1): 17, 1 and 1", 1, x.drownsIn(3, 1));
        x.lend(1, 3, 0, 1);
        Check.due("drownsIn(3, 1): 20 is not more than 20", 1, x.drownsIn(3, 1));
        x.undo();
        x.lend(1, 2, 1, 19);
        x.lend(1, 2, 1, 1);
        Check.due("drownsIn(2, 0): 20", 1, x.drownsIn(2, 0));
        x.pass(1);
        Check.due("drownsIn(2, 0): 21", 0, x.drownsIn(2, 0));
        HomeworkBarter y = Check.school(APART, "work 0 sums 20;lend 0 3 sums 20;pass 10;pass 10;pass 10;pass 10;"
            + "pass 10;pass 10;pass 10;pass 10;");
        Check.due("drownsIn(3, 1): 99", 0, y.drownsIn(3, 1));
    }

    // ---- nothing changes, wrong arguments

    private static HomeworkBarter busy() {
        return Check.school(WATCHED, "work 0 sums 4;lend 0 1 sums 2;swap 2 3 0 0;pass 1;work 3 verses 2;");
    }

    private static void nothingChanges() {
        HomeworkBarter x = busy();
        String before = Check.state(x);
        for (int pupil = 0; pupil < 5; pupil++) {
            for (int what = 0; what < 3; what++) x.ifWeek(pupil, what);
            for (int subject = 0; subject < 2; subject++) {
                x.couldMake(pupil, subject);
                x.drownsIn(pupil, subject);
                x.whyLend(pupil, 0, subject, 1);
            }
            x.freeIn(pupil);
            x.safestBench(pupil);
            x.safestPartner(pupil);
            x.ifMoved(pupil, 5, 5);
            x.whySwap(pupil, 4, 1, 1);
        }
        for (int what = 0; what < 4; what++) x.ifPassed(30, what);
        Check.due("state behind all that would be", before, Check.state(x));
        Check.due("acts that can be undone", 5, x.count(12));
        Check.due("refusals", "0 0 0 0 0 0 0 0 0 0 ", Check.refusals(x));
    }

    private static void dueOutOfBounds(String call, ToIntFunction<HomeworkBarter> run) {
        Check.dueThrowAndNoChange(call, IndexOutOfBoundsException.class, ForesightTest::busy, run::applyAsInt);
    }

    private static void dueIllegal(String call, ToIntFunction<HomeworkBarter> run) {
        Check.dueThrowAndNoChange(call, IllegalArgumentException.class, ForesightTest::busy, run::applyAsInt);
    }

    private static void wrongArguments() {
        for (int no : new int[] {-1, 5, Integer.MIN_VALUE, Integer.MAX_VALUE}) {
            dueOutOfBounds("couldMake(" + no + ", 2)", x -> x.couldMake(no, 2));
            dueOutOfBounds("ifWeek(" + no + ", 3)", x -> x.ifWeek(no, 3));
            dueOutOfBounds("freeIn(" + no + ")", x -> x.freeIn(no));
            dueOutOfBounds("ifMoved(" + no + ", 6, 6)", x -> x.ifMoved(no, 6, 6));
            dueOutOfBounds("whySwap(" + no + ", 0, 21, 0)", x -> x.whySwap(no, 0, 21, 0));
            dueOutOfBounds("whySwap(0, " + no + ", 0, 21)", x -> x.whySwap(0, no, 0, 21));
            dueOutOfBounds("whyLend(" + no + ", 0, 2, 1)", x -> x.whyLend(no, 0, 2, 1));
            dueOutOfBounds("whyLend(0, " + no + ", 0, 0)", x -> x.whyLend(0, no, 0, 0));
            dueOutOfBounds("safestBench(" + no + ")", x -> x.safestBench(no));
            dueOutOfBounds("safestPartner(" + no + ")", x -> x.safestPartner(no));
            dueOutOfBounds("drownsIn(" + no + ", 2)", x -> x.drownsIn(no, 2));
        }
        for (int no : new int[] {-1, 2, Integer.MIN_VALUE, Integer.MAX_VALUE}) {
            dueIllegal("couldMake(0, " + no + ")", x -> x.couldMake(0, no));
            dueIllegal("drownsIn(0, " + no + ")", x -> x.drownsIn(0, no));
            dueIllegal("whyLend(0, 0, " + no + ", 1)", x -> x.whyLend(0, 0, no, 1));
            dueIllegal("ifWeek(0, " + no + ")", x -> x.ifWeek(0, no == 2 ? 3 : no));
            dueIllegal("ifPassed(1, " + no + ")", x -> x.ifPassed(1, no == 2 ? 4 : no));
            dueIllegal("ifPassed(" + no + ", 0)", x -> x.ifPassed(no == 2 ? 31 : no, 0));
            dueIllegal("ifMoved(0, " + no + ", 0)", x -> x.ifMoved(0, no == 2 ? 6 : no, 0));
            dueIllegal("ifMoved(0, 0, " + no + ")", x -> x.ifMoved(0, 0, no == 2 ? 6 : no));
            dueIllegal("whySwap(0, 0, " + no + ", 0)", x -> x.whySwap(0, 0, no == 2 ? 21 : no, 0));
            dueIllegal("whySwap(0, 0, 0, " + no + ")", x -> x.whySwap(0, 0, 0, no == 2 ? 21 : no));
            dueIllegal("whyLend(0, 0, 0, " + no + ")", x -> x.whyLend(0, 0, 0, no == 2 ? 21 : no));
        }
        dueIllegal("whyLend(0, 0, 0, 0)", x -> x.whyLend(0, 0, 0, 0));
    }
}
