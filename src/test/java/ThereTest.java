import java.util.function.ToIntFunction;

/** Promises 8 to 17: what there is. */
public final class ThereTest {
    private static final String SETUP = "school 60 20 2 1; pupil 0 0 9 9; pupil 0 1 9 8 spy; pupil 1 1 8 9;"
        + "pupil 5 5 9 9 spy; pupil 2 2 1 5 spy;";
    private static final String BARTER = "work 0 sums 10;work 1 verses 9;work 2 verses 5;work 0 verses 2;"
        + "lend 0 2 sums 4;lend 2 0 verses 3;pay 2 0 verses 1;swap 0 1 2 4;";

    public static void main(String[] args) {
        promise8();
        promise9();
        promise10();
        promises11And12();
        promises13And14();
        promise15();
        promise16();
        promise17();
        wrongArguments();
        Check.end();
    }

    private static HomeworkBarter bartered() {
        return Check.school(SETUP, BARTER);
    }

    private static HomeworkBarter aWeekLater() {
        return Check.school(SETUP, BARTER + "pass 1;");
    }

    /** Pupils 0 and 2 are detained by the spy 1, for a week. */
    private static HomeworkBarter detained() {
        return Check.school("school 11 1 0 0;pupil 0 0 9 9;pupil 0 1 9 9 spy;pupil 1 0 9 9;",
            "work 0 sums 3;work 2 verses 2;swap 0 2 1 0;pass 1;");
    }

    private static void promise8() {
        int[] ahead = {5, 0, 60, 20, 2, 1, 10, 16, 2, 6, 0, 3, 6};
        int[] behind = {5, 1, 60, 20, 2, 1, 4, 13, 2, 8, 0, 3, 6};
        HomeworkBarter x = bartered();
        HomeworkBarter y = aWeekLater();
        HomeworkBarter z = detained();
        for (int what = 0; what < 13; what++) {
            Check.due("bartered: count(" + what + ")", ahead[what], x.count(what));
            Check.due("a week later: count(" + what + ")", behind[what], y.count(what));
        }
        Check.due("pupils who are detained", 2, z.count(10));
        Check.due("acts that can be undone", 4, z.count(12));
        z.pass(1);
        Check.due("pupils who are detained a week later", 0, z.count(10));
        HomeworkBarter spy = Check.school("school 11 1 0 0;pupil 0 0 9 9 spy;pupil 0 1 9 9 spy;pupil 1 0 9 9;",
            "swap 0 2 0 0;pass 1;");
        Check.due("spies, also those who are detained", 2, spy.count(11));
    }

    private static void promise9() {
        int[] ahead = {10, 16, 1, 2, 1, 0, 0, 6, 0, 0};
        int[] behind = {10, 16, 1, 2, 1, 9, 0, 6, 0, 2};
        int[] punished = {3, 2, 1, 0, 0, 0, 5, 1, 2, 0};
        HomeworkBarter x = bartered();
        HomeworkBarter y = aWeekLater();
        HomeworkBarter z = detained();
        for (int what = 0; what < 10; what++) {
            Check.due("bartered: tally(" + what + ")", ahead[what], x.tally(what));
            Check.due("a week later: tally(" + what + ")", behind[what], y.tally(what));
            Check.due("detained: tally(" + what + ")", punished[what], z.tally(what));
        }
    }

    private static void promise10() {
        int[][] ahead = {
            {0, 0, 9, 9, 0, 48, 6, 0, 0, 4, 10, 3, 3, 2},
            {0, 1, 9, 8, 1, 42, 0, 0, 0, 2, 5, 0, 0, 0},
            {1, 1, 8, 9, 0, 55, 6, 0, 0, 4, 1, 3, 3, 2},
            {5, 5, 9, 9, 1, 60, 0, 0, 0, 0, 0, 0, 0, 0},
            {2, 2, 1, 5, 1, 60, 0, 0, 0, 0, 0, 0, 0, 0}};
        int[][] behind = {
            {0, 0, 9, 9, 0, 60, 6, 0, 0, 2, 9, 4, 4, 2},
            {0, 1, 9, 8, 1, 60, 0, 0, 0, 0, 4, 0, 0, 0},
            {1, 1, 8, 9, 0, 60, 6, 0, 0, 2, 0, 4, 4, 2},
            {5, 5, 9, 9, 1, 60, 0, 3, 0, 0, 0, 0, 0, 0},
            {2, 2, 1, 5, 1, 60, 0, 3, 0, 0, 0, 0, 0, 0}};
        int[] punished = {0, 0, 9, 9, 0, 5, 0, 0, 1, 0, 0, 0, 0, 0};
        HomeworkBarter x = bartered();
        HomeworkBarter y = aWeekLater();
        for (int pupil = 0; pupil < 5; pupil++) {
            for (int what = 0; what < 14; what++) {
                Check.due("bartered: pupil(" + pupil + ", " + what + ")", ahead[pupil][what], x.pupil(pupil, what));
                Check.due("later: pupil(" + pupil + ", " + what + ")", behind[pupil][what], y.pupil(pupil, what));
            }
        }
        HomeworkBarter z = detained();
        for (int what = 0; what < 14; what++) {
            Check.due("detained: pupil(0, " + what + ")", punished[what], z.pupil(0, what));
        }
    }

    private static void promises11And12() {
        HomeworkBarter x = bartered();
        int[] makers = {0, 0, 2, 2, 2, 2, 1, 1, 1, 1, -1};
        for (int place = 0; place < 11; place++) {
            Check.due("piece(0, 1, " + place + ")", makers[place], x.piece(0, 1, place));
        }
        Check.due("piece(0, 0, 3)", 0, x.piece(0, 0, 3));
        Check.due("piece(0, 0, 4)", -1, x.piece(0, 0, 4));
        Check.due("piece(2, 0, 0), made by another", 0, x.piece(2, 0, 0));
        Check.due("piece(0, 1, -1)", -1, x.piece(0, 1, -1));
        Check.due("piece(0, 1, least)", -1, x.piece(0, 1, Integer.MIN_VALUE));
        Check.due("piece(0, 1, greatest)", -1, x.piece(0, 1, Integer.MAX_VALUE));
        Check.due("piece(3, 0, 0), an empty satchel", -1, x.piece(3, 0, 0));
        int[] madeBy = {2, 4, 4, 0, 0};
        for (int maker = 0; maker < 5; maker++) {
            Check.due("madeBy(0, 1, " + maker + ")", madeBy[maker], x.madeBy(0, 1, maker));
        }
        Check.due("madeBy(0, 0, 0)", 4, x.madeBy(0, 0, 0));
        Check.due("madeBy(2, 0, 2)", 0, x.madeBy(2, 0, 2));
        HomeworkBarter full = new HomeworkBarter();
        full.work(1, 1, 20);
        Check.due("the 20th piece", 1, full.piece(1, 1, 19));
        Check.due("the 21st piece", -1, full.piece(1, 1, 20));
    }

    private static void promises13And14() {
        HomeworkBarter x = bartered();
        int[][] debts = {{2, 0, 1, 3}, {0, 2, 0, 3}};
        for (int debt = 0; debt < 2; debt++) {
            for (int what = 0; what < 4; what++) {
                Check.due("debt(" + debt + ", " + what + ")", debts[debt][what], x.debt(debt, what));
            }
        }
        Check.due("owes(2, 0, 1)", 3, x.owes(2, 0, 1));
        Check.due("owes(2, 0, 0)", 0, x.owes(2, 0, 0));
        Check.due("owes(0, 2, 0)", 3, x.owes(0, 2, 0));
        Check.due("owes(0, 2, 1)", 0, x.owes(0, 2, 1));
        Check.due("owes(1, 1, 1)", 0, x.owes(1, 1, 1));

        // Debts of both to each other in one subject, numbers as debts grow, and as one ahead of them is paid.
        HomeworkBarter y = Check.school(SETUP, "work 0 sums 5;work 3 sums 9;lend 0 2 sums 2;lend 3 0 sums 3;"
            + "work 2 sums 5;lend 2 0 sums 1;lend 0 2 sums 2;");
        int[][] three = {{2, 0, 1, 4}, {0, 3, 1, 3}, {0, 2, 1, 1}};
        Check.due("debts", 3, y.count(8));
        for (int debt = 0; debt < 3; debt++) {
            for (int what = 0; what < 4; what++) {
                Check.due("y: debt(" + debt + ", " + what + ")", three[debt][what], y.debt(debt, what));
            }
        }
        y.work(0, 1, 3);
        Check.due("payBack of all of debt 1", 0, y.payBack(0, 3, 1, 3));
        Check.due("debts", 2, y.count(8));
        for (int what = 0; what < 4; what++) {
            Check.due("the first one stays: debt(0, " + what + ")", three[0][what], y.debt(0, what));
            Check.due("those behind come ahead: debt(1, " + what + ")", three[2][what], y.debt(1, what));
        }
        Check.dueOutOfBounds("debt(2, 0)", () -> y.debt(2, 0));
        Check.due("owes(0, 3, 1)", 0, y.owes(0, 3, 1));
    }

    private static void promise15() {
        HomeworkBarter x = Check.school("school 10 1 0 0;pupil 2 2 1 1;pupil 2 3 1 1;pupil 1 1 1 1;pupil 3 3 1 1;"
            + "pupil 2 4 1 1;pupil 4 2 1 1;pupil 4 4 1 1;pupil 0 0 1 1;");
        boolean[] near = {true, true, true, true, false, false, false, false};
        for (int other = 0; other < 8; other++) {
            Check.due("isNear(0, " + other + ")", near[other], x.isNear(0, other));
            Check.due("isNear(" + other + ", 0)", near[other], x.isNear(other, 0));
            Check.due("isNear(" + other + ", itself)", true, x.isNear(other, other));
        }
        Check.due("isNear(2, 7)", true, x.isNear(2, 7));
        Check.due("isNear(1, 2), SEATS differ by 2", false, x.isNear(1, 2));
        Check.due("isNear(3, 6)", true, x.isNear(3, 6));
    }

    private static void promise16() {
        HomeworkBarter x = bartered();
        for (int pupil = 0; pupil <= 2; pupil += 2) {
            Check.due("witness(" + pupil + ", 0)", 1, x.witness(pupil, 0));
            Check.due("witness(" + pupil + ", 1)", 4, x.witness(pupil, 1));
            Check.due("witness(" + pupil + ", 2)", -1, x.witness(pupil, 2));
        }
        Check.due("witness(0, -1)", -1, x.witness(0, -1));
        Check.due("witness(0, least)", -1, x.witness(0, Integer.MIN_VALUE));
        Check.due("witness(0, greatest)", -1, x.witness(0, Integer.MAX_VALUE));
        Check.due("witness(1, 0), whom nobody saw", -1, x.witness(1, 0));
        x.confess(0);
        Check.due("witness(0, 0) behind confess", -1, x.witness(0, 0));
        Check.due("witness(2, 0) behind it", 1, x.witness(2, 0));
        Check.due("witness behind a punishment", -1, detained().witness(0, 0));
    }

    private static void promise17() {
        HomeworkBarter x = new HomeworkBarter();
        int[] on = {0, 1, 6, 21, 22};
        for (int bench = 0; bench < 36; bench++) {
            int want = -1;
            for (int pupil = 0; pupil < 5; pupil++) want = on[pupil] == bench ? pupil : want;
            Check.due("bench(" + bench / 6 + ", " + bench % 6 + ")", want, x.bench(bench / 6, bench % 6));
        }
        x.move(4, 5, 5);
        Check.due("bench(3, 4), which it left", -1, x.bench(3, 4));
        Check.due("bench(5, 5)", 4, x.bench(5, 5));
    }

    // ---- wrong arguments: the exception of the method, and no change

    private static void dueOutOfBounds(String call, ToIntFunction<HomeworkBarter> run) {
        Check.dueThrowAndNoChange(call, IndexOutOfBoundsException.class, ThereTest::bartered, run::applyAsInt);
    }

    private static void dueIllegal(String call, ToIntFunction<HomeworkBarter> run) {
        Check.dueThrowAndNoChange(call, IllegalArgumentException.class, ThereTest::bartered, run::applyAsInt);
    }

    private static void wrongArguments() {
        int[] noPupils = {-1, 5, 11, 12, Integer.MIN_VALUE, Integer.MAX_VALUE};
        for (int no : noPupils) {
            dueOutOfBounds("pupil(" + no + ", 99)", x -> x.pupil(no, 99));
            dueOutOfBounds("piece(" + no + ", 2, 0)", x -> x.piece(no, 2, 0));
            dueOutOfBounds("madeBy(" + no + ", 0, 0)", x -> x.madeBy(no, 0, 0));
            dueOutOfBounds("madeBy(0, 2, " + no + ")", x -> x.madeBy(0, 2, no));
            dueOutOfBounds("owes(" + no + ", 0, 0)", x -> x.owes(no, 0, 0));
            dueOutOfBounds("owes(0, " + no + ", 2)", x -> x.owes(0, no, 2));
            dueOutOfBounds("isNear(" + no + ", 0)", x -> x.isNear(no, 0) ? 1 : 0);
            dueOutOfBounds("isNear(0, " + no + ")", x -> x.isNear(0, no) ? 1 : 0);
            dueOutOfBounds("witness(" + no + ", 0)", x -> x.witness(no, 0));
            dueOutOfBounds("debt(" + no + ", 4)", x -> x.debt(no, 4));
        }
        dueOutOfBounds("debt(2, 0)", x -> x.debt(2, 0));
        for (int no : new int[] {-1, 2, Integer.MIN_VALUE, Integer.MAX_VALUE}) {
            dueIllegal("piece(0, " + no + ", 0)", x -> x.piece(0, no, 0));
            dueIllegal("madeBy(0, " + no + ", 0)", x -> x.madeBy(0, no, 0));
            dueIllegal("owes(0, 1, " + no + ")", x -> x.owes(0, 1, no));
        }
        for (int no : new int[] {-1, 14, Integer.MIN_VALUE, Integer.MAX_VALUE}) {
            dueIllegal("count(" + no + ")", x -> x.count(no == 14 ? 13 : no));
            dueIllegal("tally(" + no + ")", x -> x.tally(no == 14 ? 10 : no));
            dueIllegal("pupil(0, " + no + ")", x -> x.pupil(0, no));
            dueIllegal("debt(0, " + no + ")", x -> x.debt(0, no == 14 ? 4 : no));
            dueIllegal("bench(" + no + ", 0)", x -> x.bench(no == 14 ? 6 : no, 0));
            dueIllegal("bench(0, " + no + ")", x -> x.bench(0, no == 14 ? 6 : no));
        }
    }
}
