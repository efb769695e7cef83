import java.util.function.ToIntFunction;

/** Promises 18 to 31: reasons, accounts. */
public final class AccountsTest {
    private static final String SPIES = "school 60 20 0 0;pupil 0 0 9 9;pupil 0 2 9 9;pupil 0 1 9 9 spy;"
        + "pupil 1 0 9 9 spy;pupil 1 3 9 9 spy;pupil 4 4 9 9 spy;pupil 5 5 9 9;";
    private static final String PLAIN = "school 60 20 2 1;pupil 0 0 9 9;pupil 0 5 9 9;pupil 5 0 9 9;pupil 5 5 9 9;";

    public static void main(String[] args) {
        promise18();
        promise19();
        promise19Order();
        promise20();
        promise21();
        promise22();
        promises23And24();
        promise25();
        promise26();
        promise27();
        promise28();
        promise29();
        promise30();
        promise31();
        wrongArguments();
        Check.end();
    }

    private static void promise18() {
        HomeworkBarter x = Check.school(SPIES);
        Check.due("seers(0, 1): near one, near the other, near both", 3, x.seers(0, 1));
        Check.due("seers(1, 0)", 3, x.seers(1, 0));
        Check.due("seers(0, 2): not the spy itself", 1, x.seers(0, 2));
        Check.due("seers(2, 3): none of both", 0, x.seers(2, 3));
        Check.due("seers(0, 6): near either", 3, x.seers(0, 6));
        Check.due("seers(5, 6)", 0, x.seers(5, 6));
        Check.due("what swap tells", 3, x.swap(0, 1, 0, 0));
        Check.due("PROOF of the one", 3, x.pupil(0, 6));
        Check.due("PROOF of the other", 3, x.pupil(1, 6));
        HomeworkBarter y = Check.school("school 10 1 0 0;pupil 0 0 9 9;pupil 0 1 9 9 spy;pupil 1 0 9 9 spy;"
            + "pupil 1 1 9 9;", "swap 0 1 0 0;");
        Check.due("seers(0, 3)", 2, y.seers(0, 3));
        y.pass(1);
        Check.due("DETENTION of a spy", 1, y.pupil(1, 8));
        Check.due("seers(0, 3): a detained spy sees nothing", 1, y.seers(0, 3));
        y.pass(1);
        Check.due("seers(0, 3) as it is free again", 2, y.seers(0, 3));
    }

    private static void promise19() {
        // 1: detained by a PROOF of 7 at a LIMIT of 1: 1 plus 6 / 3.
        String watched = "school 20 1 0 0;pupil 0 0 9 9;pupil 0 1 9 9 spy;pupil 1 0 9 9;";
        HomeworkBarter x = Check.school(watched, "swap 0 2 0 0;swap 0 2 0 0;swap 0 2 0 0;swap 0 2 0 0;swap 0 2 0 0;"
            + "swap 0 2 0 0;swap 0 2 0 0;");
        dueWhy("2 at 7", x, 0, 2, 207);
        x.pass(1);
        dueWhy("1 at 3 weeks", x, 0, 1, 103);
        x.pass(2);
        dueWhy("1 at 1 week", x, 0, 1, 101);
        x.pass(1);
        dueWhy("5 as it is free", x, 0, 5, 520);

        // 2 by what it would hand in: three sums of another one are a PROOF of 1.
        HomeworkBarter y = Check.school("school 20 1 3 0;pupil 0 0 9 9;pupil 5 5 9 9;", "work 0 sums 6;");
        dueWhy("3 at 3", y, 1, 3, 303);
        y.swap(0, 1, 3, 0);
        dueWhy("2 by the sums", y, 1, 2, 201);
        dueWhy("5, of its own sums", y, 0, 5, 514);

        HomeworkBarter z = Check.school(PLAIN, "work 0 sums 4;work 0 verses 3;work 1 sums 8;work 1 verses 3;"
            + "lend 1 0 sums 2;lend 1 0 sums 2;");
        dueWhy("4: owes 4 verses and has 3", z, 0, 4, 400);
        z.work(0, 1, 1);
        dueWhy("5: owes 4 and has 4", z, 0, 5, 552);
        dueWhy("3: both subjects", z, 2, 3, 303);
    }

    /** The first of several applies, and of several debts the lowest one that is too much. */
    private static void promise19Order() {
        HomeworkBarter x = Check.school("school 60 1 2 2;pupil 0 0 9 9;pupil 0 5 9 9;pupil 5 0 9 9;pupil 1 1 9 9 spy;",
            "work 1 sums 9;work 2 sums 9;work 0 verses 3;lend 1 0 sums 3;lend 2 0 sums 4;lend 2 1 sums 1;");
        Check.due("the spy saw both loans", 2, x.pupil(0, 6));
        dueWhy("2 ahead of 4", x, 0, 2, 202);
        x.confess(0);
        dueWhy("2 at the LIMIT itself", x, 0, 2, 201);
        x.confess(0);
        dueWhy("4: debt 0 is of 3 and it has 3, debt 1 of 4", x, 0, 4, 401);
        x.lend(0, 2, 1, 2);
        dueWhy("3 ahead of 4", x, 0, 2, 201);
        x.confess(0);
        dueWhy("3 ahead of 4", x, 0, 3, 301);
        x.work(0, 1, 1);
        dueWhy("4 by debt 0", x, 0, 4, 400);
        x.pass(1);
        dueWhy("1 ahead of 3", Check.school("school 60 1 2 2;pupil 0 0 9 9;pupil 0 1 9 9;pupil 1 1 9 9 spy;",
            "swap 0 1 0 0;pass 1;"), 0, 1, 101);
    }

    private static void dueWhy(String what, HomeworkBarter x, int pupil, int stands, int cause) {
        Check.due("why(" + pupil + ", 0), " + what, stands, x.why(pupil, 0));
        Check.due("why(" + pupil + ", 1), " + what, cause, x.why(pupil, 1));
    }

    private static void promise20() {
        HomeworkBarter x = new HomeworkBarter();
        for (int what = 0; what < 5; what++) Check.due("most(" + what + ") of a new object", 0, x.most(what));
        HomeworkBarter y = Check.school("school 60 20 1 0;pupil 0 0 9 9;pupil 0 1 9 9;pupil 1 0 9 9 spy;pupil 5 5 9 9;"
            + "pupil 5 4 9 9;", "work 1 sums 3;work 3 sums 8;work 4 sums 8;lend 3 4 sums 2;lend 4 3 sums 2;"
            + "lend 3 1 sums 1;swap 1 0 1 0;swap 1 0 0 0;confess 1;confess 1;");
        // MARKS 0 2 0 0 0, PROOF 2 0 0 1 0; 4 owes 3 two verses, 3 owes 4 two, 1 owes 3 one.
        Check.due("most(0)", 1, y.most(0));
        Check.due("most(1)", 0, y.most(1));
        Check.due("most(2), the lower one of two", 3, y.most(2));
        Check.due("most(3)", 3, y.most(3));
        Check.due("most(4), both satchels together", 4, y.most(4));
        y.work(3, 1, 1);
        Check.due("most(4), the lower one of two", 3, y.most(4));
        y.lend(4, 0, 0, 1);
        Check.due("most(3), the lower one of two", 3, y.most(3));
        y.lend(4, 0, 0, 1);
        Check.due("most(3)", 4, y.most(3));
        y.payBack(3, 4, 1, 1);
        Check.due("most(2)", 0, y.most(2));
    }

    private static void promise21() {
        HomeworkBarter x = new HomeworkBarter();
        int[] sums = {0, 3, 2, 1, 4, -1};
        int[] verses = {1, 3, 4, 2, 0, -1};
        for (int place = 0; place < 6; place++) {
            Check.due("ranked(0, " + place + ")", sums[place], x.ranked(0, place));
            Check.due("ranked(1, " + place + ")", verses[place], x.ranked(1, place));
        }
        HomeworkBarter y = Check.school("school 60 20 0 0;pupil 0 0 5 1;pupil 0 1 7 1;pupil 0 2 5 1;pupil 0 3 7 1;");
        int[] order = {1, 3, 0, 2};
        for (int place = 0; place < 4; place++) {
            Check.due("y: ranked(0, " + place + ")", order[place], y.ranked(0, place));
            Check.due("y: ranked(1, " + place + ")", place, y.ranked(1, place));
        }
        for (int place : new int[] {-1, 4, Integer.MIN_VALUE, Integer.MAX_VALUE}) {
            Check.due("y: ranked(0, " + place + ")", -1, y.ranked(0, place));
        }
    }

    private static void promise22() {
        HomeworkBarter x = new HomeworkBarter();
        Check.due("mostOf(0) without pieces", 0, x.mostOf(0));
        x.work(1, 0, 2);
        x.work(3, 0, 2);
        x.work(4, 1, 3);
        Check.due("mostOf(0), the lower one of two", 1, x.mostOf(0));
        Check.due("mostOf(1)", 4, x.mostOf(1));
        x.work(3, 0, 1);
        Check.due("mostOf(0)", 3, x.mostOf(0));
    }

    private static void promises23And24() {
        HomeworkBarter x = Check.school(PLAIN, "work 0 sums 3;work 1 sums 3;work 2 sums 3;lend 0 3 sums 2;"
            + "lend 1 3 sums 2;lend 2 3 sums 1;lend 0 3 sums 1;");
        Check.due("makers(3, 0)", 3, x.makers(3, 0));
        Check.due("makers(3, 1)", 0, x.makers(3, 1));
        Check.due("makers(1, 0), its own", 1, x.makers(1, 0));
        x.work(3, 0, 1);
        Check.due("makers(3, 0), with its own", 4, x.makers(3, 0));
        Check.due("makers(0, 0), an empty satchel", 0, x.makers(0, 0));
        Check.due("needs(0, 0)", 2, x.needs(0, 0));
        Check.due("needs(0, 1)", 1, x.needs(0, 1));
        Check.due("needs(1, 0)", 1, x.needs(1, 0));
        Check.due("needs(2, 0), as many as DUE", 0, x.needs(2, 0));
        Check.due("needs(3, 0), more than DUE", 0, x.needs(3, 0));
    }

    private static void promise25() {
        HomeworkBarter x = Check.school(SPIES);
        int[][] near = {{2, 3, -1}, {2, 4, -1}, {0, 1, 3}, {0, 2, -1}, {1, -1, -1}, {6, -1, -1}, {5, -1, -1}};
        for (int pupil = 0; pupil < 7; pupil++) {
            for (int place = 0; place < 3; place++) {
                Check.due("nearTo(" + pupil + ", " + place + ")", near[pupil][place], x.nearTo(pupil, place));
            }
        }
        for (int place : new int[] {-1, 3, Integer.MIN_VALUE, Integer.MAX_VALUE}) {
            Check.due("nearTo(2, " + place + ")", -1, x.nearTo(2, place));
        }
    }

    private static void promise26() {
        HomeworkBarter x = Check.school(PLAIN, "work 0 sums 9;work 1 sums 9;lend 0 2 sums 1;lend 0 3 sums 1;"
            + "lend 1 2 sums 1;lend 1 3 sums 1;");
        int[][] debts = {{-1, -1, -1}, {-1, -1, -1}, {0, 2, -1}, {1, 3, -1}};
        for (int pupil = 0; pupil < 4; pupil++) {
            for (int place = 0; place < 3; place++) {
                Check.due("debtOf(" + pupil + ", " + place + ")", debts[pupil][place], x.debtOf(pupil, place));
            }
        }
        for (int place : new int[] {-1, 2, Integer.MIN_VALUE, Integer.MAX_VALUE}) {
            Check.due("debtOf(3, " + place + ")", -1, x.debtOf(3, place));
        }
    }

    private static void promise27() {
        HomeworkBarter x = Check.school(PLAIN, "work 0 sums 20;work 1 verses 2;lend 0 1 sums 3;");
        Check.due("canPay(0) with 2 of 3", false, x.canPay(0));
        x.work(1, 1, 1);
        Check.due("canPay(0) with 3 of 3", true, x.canPay(0));
        x.work(0, 1, 18);
        Check.due("canPay(0) into a full satchel", false, x.canPay(0));
        Check.due("canPay is no act", "0 0 0 0 0 0 0 0 0 0 ", Check.refusals(x));
        Check.due("canPay does not pay", 3, x.owes(1, 0, 1));

        HomeworkBarter y = Check.school(PLAIN, "work 0 sums 20;lend 0 1 sums 12;pass 9;work 1 verses 20;");
        Check.due("pieces", 21, y.debt(0, 3));
        Check.due("canPay(0) of 21", false, y.canPay(0));
        y.payBack(1, 0, 1, 1);
        y.swap(0, 1, 0, 1);
        Check.due("canPay(0) of 20 with 18", false, y.canPay(0));
        HomeworkBarter exact = Check.school(PLAIN, "work 0 sums 20;lend 0 1 sums 12;pass 8;work 1 verses 20;");
        Check.due("canPay(0) of 20 with 20", true, exact.canPay(0));

        HomeworkBarter z = Check.school("school 20 1 0 0;pupil 0 0 9 9;pupil 0 1 9 9 spy;pupil 5 5 9 9;",
            "work 0 sums 4;work 2 verses 5;lend 0 2 sums 1;work 1 verses 2;");
        Check.due("canPay(0)", true, z.canPay(0));
        z.pass(1);
        z.work(2, 1, 5);
        Check.due("canPay(0) of one who is detained", false, z.canPay(0));
        z.pass(1);
        z.work(2, 1, 5);
        Check.due("canPay(0) as it is free", true, z.canPay(0));
    }

    private static void promise28() {
        HomeworkBarter x = new HomeworkBarter();
        x.swap(1, 1, 0, 0);
        x.swap(1, 1, 0, 0);
        x.confess(0);
        Check.play(x, "work 0 verses 20;");
        x.save(0);
        x.undo();
        x.restore(0);
        Check.load(x, PLAIN);
        x.whySwap(0, 0, 0, 0);
        x.whyLend(0, 0, 0, 1);
        Check.due("refusals", "0 1 0 0 2 0 0 1 0 0 ", Check.refusals(x));
    }

    private static void promise29() {
        HomeworkBarter x = new HomeworkBarter();
        Check.due("gap of a new object", 0, x.gap());
        Check.play(x, "work 0 sums 6;work 1 verses 20;swap 0 1 2 3;lend 0 3 sums 2;lend 1 0 verses 5;pass 2;");
        Check.due("gap behind barter", 0, x.gap());
        x.swap(1, 3, 0, 0);
        x.swap(1, 3, 0, 0);
        x.pass(1);
        Check.due("gap behind punishments", 0, x.gap());
        x.undo();
        Check.due("gap behind undo", 0, x.gap());
    }

    private static void promise30() {
        HomeworkBarter x = new HomeworkBarter();
        Check.dueExactly("meanMarks of a new object", 0.0, x.meanMarks());
        x.pass(1);
        Check.dueExactly("meanMarks behind a week", 3.0, x.meanMarks());
        x.work(0, 0, 1);
        x.pass(1);
        Check.dueExactly("meanMarks behind two", 29.0 / 5.0, x.meanMarks());
        HomeworkBarter y = Check.school("school 10 1 1 0;pupil 0 0 9 9;pupil 0 1 9 9;pupil 0 2 9 9;",
            "work 0 sums 1;work 1 sums 1;pass 1;");
        Check.dueExactly("meanMarks, a third", 1.0 / 3.0, y.meanMarks());
    }

    private static void promise31() {
        HomeworkBarter x = Check.school(PLAIN, "work 0 sums 4;work 1 verses 4;swap 0 1 1 3;");
        Check.dueExactly("ownShare(0)", 3.0f / 6.0f, x.ownShare(0));
        Check.dueExactly("ownShare(1)", 1.0f / 2.0f, x.ownShare(1));
        Check.dueExactly("ownShare(2) without any", 0.0f, x.ownShare(2));
        x.work(1, 0, 1);
        Check.dueExactly("ownShare(1)", 2.0f / 3.0f, x.ownShare(1));
        x.lend(1, 3, 0, 1);
        Check.dueExactly("ownShare(3), none of its own", 0.0f, x.ownShare(3));
        x.work(2, 1, 2);
        Check.dueExactly("ownShare(2), all its own", 1.0f, x.ownShare(2));
    }

    // ---- wrong arguments

    private static HomeworkBarter two() {
        return Check.school(PLAIN, "work 0 sums 4;lend 0 1 sums 2;");
    }

    private static void dueOutOfBounds(String call, ToIntFunction<HomeworkBarter> run) {
        Check.dueThrowAndNoChange(call, IndexOutOfBoundsException.class, AccountsTest::two, run::applyAsInt);
    }

    private static void dueIllegal(String call, ToIntFunction<HomeworkBarter> run) {
        Check.dueThrowAndNoChange(call, IllegalArgumentException.class, AccountsTest::two, run::applyAsInt);
    }

    private static void wrongArguments() {
        for (int no : new int[] {-1, 4, Integer.MIN_VALUE, Integer.MAX_VALUE}) {
            dueOutOfBounds("seers(" + no + ", itself)", x -> x.seers(no, no));
            dueOutOfBounds("seers(0, " + no + ")", x -> x.seers(0, no));
            dueOutOfBounds("seers(" + no + ", 0)", x -> x.seers(no, 0));
            dueOutOfBounds("why(" + no + ", 2)", x -> x.why(no, 2));
            dueOutOfBounds("makers(" + no + ", 2)", x -> x.makers(no, 2));
            dueOutOfBounds("needs(" + no + ", 2)", x -> x.needs(no, 2));
            dueOutOfBounds("nearTo(" + no + ", 0)", x -> x.nearTo(no, 0));
            dueOutOfBounds("debtOf(" + no + ", 0)", x -> x.debtOf(no, 0));
            dueOutOfBounds("canPay(" + no + ")", x -> x.canPay(no) ? 1 : 0);
            dueOutOfBounds("ownShare(" + no + ")", x -> (int) x.ownShare(no));
        }
        dueOutOfBounds("canPay(1)", x -> x.canPay(1) ? 1 : 0);
        dueIllegal("seers(3, 3)", x -> x.seers(3, 3));
        for (int no : new int[] {-1, 2, Integer.MIN_VALUE, Integer.MAX_VALUE}) {
            dueIllegal("why(0, " + no + ")", x -> x.why(0, no));
            dueIllegal("ranked(" + no + ", 0)", x -> x.ranked(no, 0));
            dueIllegal("mostOf(" + no + ")", x -> x.mostOf(no));
            dueIllegal("makers(0, " + no + ")", x -> x.makers(0, no));
            dueIllegal("needs(0, " + no + ")", x -> x.needs(0, no));
            dueIllegal("most(" + no + ")", x -> x.most(no == 2 ? 5 : no));
            dueIllegal("refusals(" + no + ")", x -> x.refusals(no == 2 ? 11 : no));
        }
        dueIllegal("refusals(0)", x -> x.refusals(0));
    }
}
