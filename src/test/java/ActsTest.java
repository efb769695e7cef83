import java.util.function.ToIntFunction;

/** Promises 42 to 47: the acts but pass(), what they answer, change and refuse. */
public final class ActsTest {
    private static final String APART = "school 60 20 0 0;pupil 0 0 9 9;pupil 0 5 8 7;pupil 5 0 9 9;pupil 5 5 9 9;";
    /** Behind a week pupils 0 and 1, whom 2 saw, are detained, and the others are not. */
    private static final String WATCHED = "school 20 1 0 0;pupil 0 0 9 9;pupil 0 1 9 9;pupil 1 1 9 9 spy;pupil 5 5 9 9;";

    public static void main(String[] args) {
        promise42();
        promise43();
        promise43Spies();
        promise43Refusals();
        promise44();
        promise44Refusals();
        promise44Limits();
        promise45();
        promise45Refusals();
        promise46();
        promise47();
        wrongArguments();
        Check.end();
    }

    private static HomeworkBarter detained() {
        return Check.school(WATCHED, "move 2 5 0;work 3 sums 9;work 3 verses 9;lend 3 0 sums 1;lend 3 1 verses 1;"
            + "move 2 1 1;swap 0 1 0 0;pass 1;");
    }

    private static void promise42() {
        HomeworkBarter x = Check.school(APART);
        Check.due("work(1, 0, 4): 60 less 4 times 2", 52, x.work(1, 0, 4));
        Check.due("sums", 4, x.pupil(1, 9));
        Check.due("verses", 0, x.pupil(1, 10));
        Check.due("MAKER", 1, x.piece(1, 0, 3));
        Check.due("work(1, 1, 2): 52 less 2 times 3", 46, x.work(1, 1, 2));
        Check.due("STRENGTH", 46, x.pupil(1, 5));
        Check.due("sums that were made", 4, x.tally(0));
        Check.due("verses that were made", 2, x.tally(1));
        Check.due("work(1, 0, 16): to 20", 14, x.work(1, 0, 16));
        Check.due("acts", 3, x.count(12));
        Check.due("others' STRENGTH", 60, x.pupil(0, 5));

        HomeworkBarter y = new HomeworkBarter();
        Check.due("work(0, 0, 15): all of its STRENGTH", 0, y.work(0, 0, 15));
        Check.dueRefusal("work(0, 1, 5): 35 of 30", 2, HomeworkBarter::new, z -> z.work(0, 1, 5));
        Check.dueRefusal("work(0, 0, 16): 32 of 30", 2, HomeworkBarter::new, z -> z.work(0, 0, 16));
        Check.dueRefusal("work(1, 0, 1): 21 pieces", 3, ActsTest::fullSatchel, z -> z.work(1, 0, 1));
        Check.dueRefusal("work(1, 0, 20): 2 ahead of 3", 2, ActsTest::fullSatchel, z -> z.work(1, 0, 20));
        Check.due("work(1, 1, 1): the other satchel is not full", 17, fullSatchel().work(1, 1, 1));
        HomeworkBarter free = detained();
        Check.due("work of one who is detained, at half STRENGTH", 4, free.work(0, 0, 6));
        Check.dueRefusal("work(0, 0, 11), detained", 2, ActsTest::detained, z -> z.work(0, 0, 11));
    }

    private static HomeworkBarter fullSatchel() {
        return Check.school(APART, "work 1 sums 20;");
    }

    private static void promise43() {
        HomeworkBarter x = Check.school(APART, "work 0 sums 3;work 1 sums 4;work 1 verses 5;work 2 verses 2;"
            + "lend 1 0 sums 2;lend 2 1 verses 2;");
        // 0 has the sums aaabb, 1 the sums bb and the verses bbbbbcc.
        Check.due("swap(0, 1, 4, 6)", 0, x.swap(0, 1, 4, 6));
        x.write(0);
        Check.due("satchels of 0: what stays, and what comes behind", "b/bbbbbc bv2", Check.output(x));
        x.write(1);
        Check.due("satchels of 1: the eldest go first", "bbaaab/c cs2", Check.output(x));
        Check.due("swaps", 1, x.tally(2));
        Check.due("a swap makes no debt", 2, x.count(8));
        Check.due("swap(0, 1, 1, 0)", 0, x.swap(0, 1, 1, 0));
        Check.due("swap(1, 0, 0, 6)", 0, x.swap(1, 0, 0, 6));
        x.write(0);
        Check.due("satchels of 0", "/ bv2", Check.output(x));
        x.write(1);
        Check.due("satchels of 1", "bbaaabb/cbbbbbc cs2", Check.output(x));
        Check.due("swap(0, 2, 0, 0) of nothing", 0, x.swap(0, 2, 0, 0));
        Check.due("swaps", 4, x.tally(2));
        HomeworkBarter y = Check.school(APART, "work 0 sums 20;work 1 verses 20;");
        Check.due("swap(0, 1, 20, 20)", 0, y.swap(0, 1, 20, 20));
        Check.due("verses of 0", 20, y.pupil(0, 10));
        Check.due("sums of 1", 20, y.pupil(1, 9));
    }

    private static void promise43Spies() {
        HomeworkBarter x = Check.school("school 60 20 0 0;pupil 2 2 9 9;pupil 2 4 9 9;pupil 1 1 9 9 spy;pupil 2 3 9 9 spy;"
            + "pupil 3 5 9 9 spy;pupil 0 2 9 9 spy;pupil 4 2 9 9;");
        Check.due("near the one, both, the other; not two ROWS away", 3, x.swap(0, 1, 0, 0));
        for (int pupil = 0; pupil < 2; pupil++) {
            Check.due("PROOF of " + pupil, 3, x.pupil(pupil, 6));
            Check.due("WITNESSES against " + pupil, 3, x.pupil(pupil, 13));
            Check.due("witness(" + pupil + ", 0)", 2, x.witness(pupil, 0));
            Check.due("witness(" + pupil + ", 1)", 3, x.witness(pupil, 1));
            Check.due("witness(" + pupil + ", 2)", 4, x.witness(pupil, 2));
        }
        Check.due("sights", 3, x.tally(7));
        for (int spy = 2; spy < 7; spy++) Check.due("PROOF of " + spy, 0, x.pupil(spy, 6));
        Check.due("again", 3, x.swap(1, 0, 0, 0));
        Check.due("PROOF grows", 6, x.pupil(0, 6));
        Check.due("each WITNESS counts once", 3, x.pupil(0, 13));
        Check.due("sights", 6, x.tally(7));
        Check.due("a spy barters: another one sees it", 1, x.swap(3, 0, 0, 0));
        Check.due("WITNESSES against the spy", 1, x.pupil(3, 13));
        Check.due("witness(3, 0)", 2, x.witness(3, 0));
        Check.due("nobody sees it", 0, x.swap(3, 6, 0, 0));
        x.move(5, 3, 3);
        Check.due("PROOF stays as a spy moves", 7, x.pupil(0, 6));
        Check.due("it sees where it is", 4, x.swap(0, 1, 0, 0));
    }

    private static void promise43Refusals() {
        dueRefusal("swap(0, 0, 20, 20)", 5, APART, "", x -> x.swap(0, 0, 20, 20));
        dueRefusal("swap(0, 1, 1, 0) without sums", 4, APART, "", x -> x.swap(0, 1, 1, 0));
        dueRefusal("swap(0, 1, 0, 1) without verses", 4, APART, "", x -> x.swap(0, 1, 0, 1));
        dueRefusal("swap(0, 1, 4, 0) with 3", 4, APART, "work 0 sums 3;", x -> x.swap(0, 1, 4, 0));
        dueRefusal("swap(0, 1, 3, 4) with 3 and 3", 4, APART, "work 0 sums 3;work 1 verses 3;", x -> x.swap(0, 1, 3, 4));
        String full = "work 0 sums 2;work 1 sums 19;work 0 verses 19;work 1 verses 2;";
        dueRefusal("swap(0, 1, 2, 0) to 21", 3, APART, full, x -> x.swap(0, 1, 2, 0));
        dueRefusal("swap(0, 1, 0, 2) to 21", 3, APART, full, x -> x.swap(0, 1, 0, 2));
        dueRefusal("swap(0, 1, 20, 0): 4 ahead of 3", 4, APART, full, x -> x.swap(0, 1, 20, 0));
        Check.due("swap(0, 1, 1, 1) to 20", 0, Check.school(APART, full).swap(0, 1, 1, 1));
        Check.dueRefusal("swap(0, 3, 9, 0): 1 ahead of 4", 1, ActsTest::detained, x -> x.swap(0, 3, 9, 0));
        Check.dueRefusal("swap(3, 0, 0, 0)", 1, ActsTest::detained, x -> x.swap(3, 0, 0, 0));
        Check.dueRefusal("swap(1, 1, 0, 0): 5 ahead of 1", 5, ActsTest::detained, x -> x.swap(1, 1, 0, 0));
        Check.due("swap(2, 3, 0, 0) of those who are free", 0, detained().swap(2, 3, 0, 0));
    }

    private static void dueRefusal(String call, int reason, String setup, String script,
            ToIntFunction<HomeworkBarter> run) {
        Check.dueRefusal(call, reason, () -> Check.school(setup, script), run);
    }

    private static void promise44() {
        HomeworkBarter x = Check.school(APART, "work 0 sums 9;work 1 verses 9;work 0 verses 5;swap 0 1 1 4;");
        Check.due("lend(0, 3, 1, 6)", 6, x.lend(0, 3, 1, 6));
        x.write(3);
        Check.due("the eldest verses went; as many sums are owed", "/aaaaab as6", Check.output(x));
        x.write(0);
        Check.due("what stays", "aaaaaaaa/bbb", Check.output(x));
        Check.due("loans", 1, x.tally(3));
        Check.due("owes(3, 0, 0)", 6, x.owes(3, 0, 0));
        Check.due("a second loan adds to the debt", 8, x.lend(0, 3, 1, 2));
        Check.due("debts", 1, x.count(8));
        Check.due("the other subject is another debt", 3, x.lend(0, 3, 0, 3));
        Check.due("debts", 2, x.count(8));
        Check.due("the other way round is another debt", 1, x.lend(3, 0, 1, 1));
        Check.due("debts", 3, x.count(8));
        Check.due("what 3 owes stays", 8, x.owes(3, 0, 0));
        Check.due("what 0 owes", 1, x.owes(0, 3, 0));
        Check.due("loans", 4, x.tally(3));
        Check.due("swaps", 1, x.tally(2));
        HomeworkBarter y = Check.school(WATCHED, "work 0 sums 3;lend 0 1 sums 2;");
        Check.due("PROOF of the one", 1, y.pupil(0, 6));
        Check.due("PROOF of the other", 1, y.pupil(1, 6));
        Check.due("witness(0, 0)", 2, y.witness(0, 0));
        Check.due("sights", 1, y.tally(7));
    }

    private static void promise44Refusals() {
        dueRefusal("lend(3, 3, 0, 20)", 5, APART, "", x -> x.lend(3, 3, 0, 20));
        dueRefusal("lend(0, 3, 0, 4) with 3", 4, APART, "work 0 sums 3;work 0 verses 9;", x -> x.lend(0, 3, 0, 4));
        dueRefusal("lend(0, 3, 1, 1) with sums alone", 4, APART, "work 0 sums 3;", x -> x.lend(0, 3, 1, 1));
        String full = "work 0 sums 9;work 3 sums 15;";
        dueRefusal("lend(0, 3, 0, 6) to 21", 3, APART, full, x -> x.lend(0, 3, 0, 6));
        dueRefusal("lend(0, 3, 0, 10): 4 ahead of 3", 4, APART, full, x -> x.lend(0, 3, 0, 10));
        Check.due("lend(0, 3, 0, 5) to 20", 5, Check.school(APART, full).lend(0, 3, 0, 5));
        Check.dueRefusal("lend(0, 3, 0, 9): 1 ahead of 4", 1, ActsTest::detained, x -> x.lend(0, 3, 0, 9));
        Check.dueRefusal("lend(3, 0, 0, 1)", 1, ActsTest::detained, x -> x.lend(3, 0, 0, 1));
        Check.dueRefusal("lend(0, 0, 0, 1): 5 ahead of 1", 5, ActsTest::detained, x -> x.lend(0, 0, 0, 1));
    }

    private static HomeworkBarter deepInDebt() {
        return Check.school(APART, "work 0 sums 20;lend 0 1 sums 20;pass 10;pass 10;pass 10;pass 10;pass 10;pass 10;"
            + "pass 10;work 0 sums 20;work 0 verses 20;");
    }

    /** Six pupils who have each lent one sum to each other one owe 30 debts. */
    private static HomeworkBarter thirtyDebts() {
        HomeworkBarter x = Check.school("school 60 20 0 0;pupil 0 0 9 9;pupil 0 1 9 9;pupil 0 2 9 9;pupil 0 3 9 9;"
            + "pupil 0 4 9 9;pupil 0 5 9 9;pupil 1 0 9 9;");
        for (int pupil = 0; pupil < 7; pupil++) {
            x.work(pupil, 0, 6);
            x.work(pupil, 1, 6);
        }
        for (int debt = 0; debt < 30; debt++) {
            Check.due("debts", debt, x.count(8));
            int pupil = debt / 5;
            x.lend(pupil, debt % 5 + (debt % 5 >= pupil ? 1 : 0), 0, 1);
        }
        return x;
    }

    private static void promise44Limits() {
        HomeworkBarter x = deepInDebt();
        Check.due("what is owed", 90, x.owes(1, 0, 1));
        Check.dueRefusal("lend(0, 1, 0, 5) to 100", 9, ActsTest::nearlyDeepest, z -> z.lend(0, 1, 0, 5));
        Check.due("lend(0, 1, 0, 4) to 99", 99, nearlyDeepest().lend(0, 1, 0, 4));
        Check.dueRefusal("lend(0, 1, 0, 20): 3 ahead of 9", 3, ActsTest::deepInDebt, z -> z.lend(0, 1, 0, 20));
        Check.due("the other subject", 20, deepInDebt().lend(0, 1, 1, 20));
        HomeworkBarter y = thirtyDebts();
        Check.due("debts", 30, y.count(8));
        Check.due("lend of a 31st debt", -9, y.lend(6, 0, 0, 1));
        Check.due("debts", 30, y.count(8));
        Check.due("refusals", 1, y.refusals(9));
        Check.due("sums of 6", 6, y.pupil(6, 9));
        Check.due("lend on a debt that is there", 2, y.lend(5, 4, 0, 1));
        Check.due("payBack of debt 7", 0, y.payBack(y.debt(7, 0), y.debt(7, 1), 1, 1));
        Check.due("lend of a 30th debt again", 1, y.lend(6, 0, 0, 1));
        Check.due("who owes debt 29", 0, y.debt(29, 0));
        Check.due("to whom", 6, y.debt(29, 1));
        Check.due("lend of a 31st debt again", -9, y.lend(6, 1, 0, 1));
    }

    private static HomeworkBarter nearlyDeepest() {
        return Check.school(APART, "work 0 sums 20;lend 0 1 sums 20;swap 1 2 20 0;pass 10;pass 10;pass 10;pass 10;"
            + "pass 10;pass 10;pass 10;pass 5;work 0 sums 20;");
    }

    private static void promise45() {
        HomeworkBarter x = Check.school(APART, "work 0 sums 5;work 2 verses 4;work 3 verses 3;lend 3 2 verses 3;"
            + "lend 0 2 sums 5;");
        x.write(2);
        Check.due("ahead", "aaaaa/ccccddd ds3 av5", Check.output(x));
        Check.due("payBack(2, 0, 1, 2)", 3, x.payBack(2, 0, 1, 2));
        x.write(2);
        Check.due("the eldest go", "aaaaa/ccddd ds3 av3", Check.output(x));
        Check.due("pieces that were paid back", 2, x.tally(4));
        Check.due("payBack(2, 3, 0, 3)", 0, x.payBack(2, 3, 0, 3));
        x.write(2);
        Check.due("a debt that is paid is gone", "aa/ccddd av3", Check.output(x));
        Check.due("payBack(2, 0, 1, 3)", 0, x.payBack(2, 0, 1, 3));
        x.write(2);
        Check.due("no debt is left", "aa/dd", Check.output(x));
        x.write(0);
        Check.due("what came", "/ccccd", Check.output(x));
        Check.due("debts", 0, x.count(8));
        Check.due("pieces that were paid back", 8, x.tally(4));
        Check.due("loans", 2, x.tally(3));
        HomeworkBarter y = Check.school(WATCHED, "work 3 sums 3;work 0 verses 3;lend 3 0 sums 2;move 2 4 4;");
        Check.due("PROOF ahead", 1, y.pupil(3, 6));
        y.payBack(0, 3, 1, 1);
        Check.due("the spy sees a payment", 2, y.pupil(3, 6));
        Check.due("PROOF of who pays", 2, y.pupil(0, 6));
        Check.due("sights", 2, y.tally(7));
    }

    private static void promise45Refusals() {
        String lent = "work 0 sums 9;work 3 verses 2;lend 0 3 sums 3;";
        dueRefusal("payBack(3, 3, 1, 1)", 5, APART, lent, x -> x.payBack(3, 3, 1, 1));
        dueRefusal("payBack(0, 3, 1, 1): the other way round", 6, APART, lent, x -> x.payBack(0, 3, 1, 1));
        dueRefusal("payBack(3, 0, 0, 1): the other subject", 6, APART, lent, x -> x.payBack(3, 0, 0, 1));
        dueRefusal("payBack(3, 1, 1, 1): another pupil", 6, APART, lent, x -> x.payBack(3, 1, 1, 1));
        dueRefusal("payBack(3, 0, 1, 4) of 3", 6, APART, lent, x -> x.payBack(3, 0, 1, 4));
        dueRefusal("payBack(3, 0, 1, 3) with 2", 4, APART, lent, x -> x.payBack(3, 0, 1, 3));
        String full = "work 0 sums 9;work 3 verses 2;work 0 verses 19;lend 0 3 sums 3;";
        dueRefusal("payBack(3, 0, 1, 2) to 21", 3, APART, full, x -> x.payBack(3, 0, 1, 2));
        dueRefusal("payBack(3, 0, 1, 3): 4 ahead of 3", 4, APART, full, x -> x.payBack(3, 0, 1, 3));
        Check.due("payBack(3, 0, 1, 1) to 20", 2, Check.school(APART, full).payBack(3, 0, 1, 1));
        Check.due("what 0 owes 3", 2, detained().owes(0, 3, 1));
        Check.dueRefusal("payBack(0, 3, 1, 2): 1 ahead of 4", 1, ActsTest::detained, x -> x.payBack(0, 3, 1, 2));
        Check.dueRefusal("payBack(0, 3, 1, 3): 6 ahead of 1", 6, ActsTest::detained, x -> x.payBack(0, 3, 1, 3));
        Check.dueRefusal("payBack(0, 0, 1, 1): 5 ahead of 6", 5, ActsTest::detained, x -> x.payBack(0, 0, 1, 1));
        Check.dueRefusal("payBack(3, 0, 1, 1) to one who is detained", 1, ActsTest::lenderDetained,
            x -> x.payBack(3, 0, 1, 1));
    }

    private static HomeworkBarter lenderDetained() {
        return Check.school(WATCHED, "work 0 sums 2;work 3 verses 9;lend 0 3 sums 1;confess 3;pass 1;work 3 verses 2;");
    }

    private static void promise46() {
        HomeworkBarter x = Check.school("school 20 1 0 0;pupil 0 0 9 9;pupil 0 1 9 9;pupil 1 1 9 9;pupil 3 3 9 9;"
            + "pupil 5 5 9 9;");
        Check.due("move(0, 2, 2): near 2 and 3", 2, x.move(0, 2, 2));
        Check.due("ROW", 2, x.pupil(0, 0));
        Check.due("SEAT", 2, x.pupil(0, 1));
        Check.due("bench(2, 2)", 0, x.bench(2, 2));
        Check.due("bench(0, 0)", -1, x.bench(0, 0));
        Check.due("move(0, 5, 0): near none", 0, x.move(0, 5, 0));
        Check.due("move(4, 0, 0): to the bench that was left", 2, x.move(4, 0, 0));
        Check.due("isNear(4, 1)", true, x.isNear(4, 1));
        String row = "school 20 1 0 0;pupil 0 0 9 9;pupil 0 1 9 9;";
        dueRefusal("move(0, 0, 1)", 7, row, "", z -> z.move(0, 0, 1));
        dueRefusal("move(0, 0, 0): its own bench", 7, row, "", z -> z.move(0, 0, 0));
        Check.dueRefusal("move(0, 5, 5): 1 ahead of 7", 1, ActsTest::detained, z -> z.move(0, 5, 5));
        Check.dueRefusal("move(0, 4, 4)", 1, ActsTest::detained, z -> z.move(0, 4, 4));
        Check.due("move of one who is free", 3, detained().move(3, 1, 0));
        Check.due("move of one who is detained no more", 0, free().move(0, 4, 0));
    }

    private static HomeworkBarter free() {
        HomeworkBarter x = detained();
        x.pass(10);
        return x;
    }

    private static void promise47() {
        HomeworkBarter x = Check.school("school 20 20 0 0;pupil 0 0 9 9;pupil 0 1 9 9;pupil 1 1 9 9 spy;",
            "swap 0 1 0 0;swap 0 1 0 0;swap 0 1 0 0;swap 0 1 0 0;swap 0 1 0 0;");
        Check.due("confess(0): half of 5", 2, x.confess(0));
        Check.due("PROOF", 2, x.pupil(0, 6));
        Check.due("MARKS", 1, x.pupil(0, 7));
        Check.due("WITNESSES against it", 0, x.pupil(0, 13));
        Check.due("PROOF of the other", 5, x.pupil(1, 6));
        Check.due("WITNESSES against the other", 1, x.pupil(1, 13));
        Check.due("confess(0): half of 2", 1, x.confess(0));
        Check.due("confess(0): half of 1", 0, x.confess(0));
        Check.due("MARKS", 3, x.pupil(0, 7));
        Check.due("confess(0): nothing", -8, x.confess(0));
        Check.due("MARKS", 3, x.pupil(0, 7));
        Check.dueRefusal("confess(0)", 8, HomeworkBarter::new, z -> z.confess(0));
        Check.dueRefusal("confess(0), detained: its PROOF is 0", 8, ActsTest::detained, z -> z.confess(0));
    }

    // ---- wrong arguments: the exception of the method, ahead of every reason, and no change

    private static void dueOutOfBounds(String call, ToIntFunction<HomeworkBarter> run) {
        Check.dueThrowAndNoChange(call, IndexOutOfBoundsException.class, ActsTest::detained, run::applyAsInt);
    }

    private static void dueIllegal(String call, ToIntFunction<HomeworkBarter> run) {
        Check.dueThrowAndNoChange(call, IllegalArgumentException.class, ActsTest::detained, run::applyAsInt);
    }

    private static void wrongArguments() {
        for (int no : new int[] {-1, 4, Integer.MIN_VALUE, Integer.MAX_VALUE}) {
            dueOutOfBounds("work(" + no + ", 2, 0)", x -> x.work(no, 2, 0));
            dueOutOfBounds("swap(" + no + ", 0, 21, 0)", x -> x.swap(no, 0, 21, 0));
            dueOutOfBounds("swap(0, " + no + ", 0, 21)", x -> x.swap(0, no, 0, 21));
            dueOutOfBounds("swap(" + no + ", itself, 0, 0)", x -> x.swap(no, no, 0, 0));
            dueOutOfBounds("lend(" + no + ", 0, 2, 1)", x -> x.lend(no, 0, 2, 1));
            dueOutOfBounds("lend(0, " + no + ", 0, 21)", x -> x.lend(0, no, 0, 21));
            dueOutOfBounds("payBack(" + no + ", 0, 2, 1)", x -> x.payBack(no, 0, 2, 1));
            dueOutOfBounds("payBack(0, " + no + ", 0, 21)", x -> x.payBack(0, no, 0, 21));
            dueOutOfBounds("move(" + no + ", 6, 6)", x -> x.move(no, 6, 6));
            dueOutOfBounds("confess(" + no + ")", x -> x.confess(no));
        }
        for (int no : new int[] {-1, 2, Integer.MIN_VALUE, Integer.MAX_VALUE}) {
            int pieces = no == 2 ? 21 : no;
            int place = no == 2 ? 6 : no;
            dueIllegal("work(0, " + no + ", 20)", x -> x.work(0, no, 20));
            dueIllegal("work(0, 0, " + pieces + ")", x -> x.work(0, 0, pieces));
            dueIllegal("swap(0, 0, " + pieces + ", 0)", x -> x.swap(0, 0, pieces, 0));
            dueIllegal("swap(0, 0, 0, " + pieces + ")", x -> x.swap(0, 0, 0, pieces));
            dueIllegal("lend(0, 0, " + no + ", 1)", x -> x.lend(0, 0, no, 1));
            dueIllegal("lend(0, 0, 0, " + pieces + ")", x -> x.lend(0, 0, 0, pieces));
            dueIllegal("payBack(0, 0, " + no + ", 1)", x -> x.payBack(0, 0, no, 1));
            dueIllegal("payBack(0, 0, 0, " + pieces + ")", x -> x.payBack(0, 0, 0, pieces));
            dueIllegal("move(0, " + place + ", 0)", x -> x.move(0, place, 0));
            dueIllegal("move(0, 0, " + place + ")", x -> x.move(0, 0, place));
        }
        dueIllegal("work(0, 0, 0)", x -> x.work(0, 0, 0));
        dueIllegal("lend(0, 0, 0, 0)", x -> x.lend(0, 0, 0, 0));
        dueIllegal("payBack(0, 0, 0, 0)", x -> x.payBack(0, 0, 0, 0));
    }
}
