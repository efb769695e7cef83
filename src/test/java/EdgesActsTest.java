import java.util.function.Supplier;
import java.util.function.ToIntFunction;

/**
 * The boundary cases of promises 42 to 48, sentence by sentence: each act at its last number that is done and its
 * first one that is refused, each reason by itself and ahead of those behind it, and what stays as it is.
 */
public final class EdgesActsTest {
    private static final String APART = "school 60 20 0 0;pupil 0 0 9 9;pupil 0 5 8 1;pupil 5 0 9 9;pupil 5 5 9 9;";

    public static void main(String[] args) {
        actsLeaveTheRest();
        workToTheLastStrength();
        workRefused();
        swapToTheLastPiece();
        swapRefused();
        lendToTheLastPiece();
        lendRefused();
        lendTo99AndTo30();
        payBackToTheLastPiece();
        payBackRefused();
        moves();
        moveRefused();
        confessions();
        passes();
        punishmentsOfSeveralWeeks();
        passRefused();
        oneReasonAlone();
        Check.end();
    }

    private static HomeworkBarter lived() {
        return Check.school("school 60 2 1 1;pupil 0 0 9 9;pupil 0 1 9 9;pupil 1 1 9 9 spy;pupil 5 5 9 9;"
            + "pupil 4 4 9 9 spy;", "work 0 sums 9;work 1 verses 9;lend 0 1 sums 3;swap 0 1 1 2;pass 1;work 3 verses 4;"
            + "work 3 sums 4;lend 3 2 verses 2;move 2 3 3;lend 3 2 sums 1;");
    }

    /** Pupils 0 and 1 are detained for a week; 0 owes 3 two verses, 3 owes 0 two sums; 3 has pieces, 0 and 1 made some. */
    private static HomeworkBarter detained() {
        HomeworkBarter x = Check.school("school 60 1 0 0;pupil 0 0 9 9;pupil 0 1 9 9;pupil 3 3 9 9 spy;pupil 5 5 9 9;",
            "work 3 sums 9;work 0 verses 1;lend 3 0 sums 1;lend 0 3 verses 1;move 2 1 1;swap 0 1 0 0;pass 1;work 0 sums 3;"
                + "work 0 verses 1;work 1 verses 3;work 3 verses 9;");
        Check.due("detained", 2, x.count(10));
        return x;
    }

    private static Supplier<HomeworkBarter> apart(String script) {
        return () -> Check.school(APART, script);
    }

    /** What is done changes the state and the acts that can be undone alone. */
    private static void actsLeaveTheRest() {
        dueDone("work", x -> x.work(3, 0, 20 - x.pupil(3, 9)));
        dueDone("swap", x -> x.swap(3, 2, 1, 1));
        dueDone("lend", x -> x.lend(3, 2, 0, 1));
        dueDone("payBack", x -> x.payBack(2, 3, 0, 1));
        dueDone("move", x -> x.move(3, 0, 5));
        dueDone("confess", x -> x.confess(3));
        dueDone("pass", x -> x.pass(10));
    }

    private static void dueDone(String act, ToIntFunction<HomeworkBarter> run) {
        Parts.dueSame(act, EdgesActsTest::lived, x -> {
            int answer = run.applyAsInt(x);
            if (answer < 0) Check.tell(act + " of a test is refused for " + -answer);
        }, Parts.STATE, Parts.UNDO);
    }

    private static void dueDone(String call, int answer, Supplier<HomeworkBarter> make, ToIntFunction<HomeworkBarter> run) {
        HomeworkBarter x = make.get();
        String refusals = Check.refusals(x);
        int acts = x.count(12);
        Check.due(call, answer, run.applyAsInt(x));
        Check.due("refusals behind " + call, refusals, Check.refusals(x));
        Check.due("acts behind " + call, Math.min(acts + 1, 6), x.count(12));
    }

    private static void dueRefused(String call, int reason, Supplier<HomeworkBarter> make, ToIntFunction<HomeworkBarter> run) {
        Check.dueRefusal(call, reason, make, run);
    }

    // ---- promise 42

    /** "each for 10 less SKILL of STRENGTH": STRENGTH may become 0, and no less. */
    private static void workToTheLastStrength() {
        for (int skill = 1; skill <= 9; skill++) {
            int cost = 10 - skill;
            for (int subject = 0; subject < 2; subject++) {
                int one = subject;
                String skills = subject == 0 ? skill + " 9" : "9 " + skill;
                for (int pieces = 1; pieces <= 6; pieces++) {
                    int number = pieces;
                    for (int left = -1; left <= 1; left++) {
                        int work = pieces * cost + left;
                        if (work < 10 || work > 60) continue;
                        Supplier<HomeworkBarter> make = () -> Check.school("school " + work + " 1 0 0;pupil 0 0 " + skills
                            + ";pupil 5 5 9 9;");
                        String call = "work of " + pieces + " for " + cost + " each, with " + work;
                        if (left < 0) dueRefused(call, 2, make, x -> x.work(0, one, number));
                        else dueDone(call, left, make, x -> x.work(0, one, number));
                    }
                }
            }
        }
        HomeworkBarter x = Check.school("school 10 1 0 0;pupil 0 0 9 9;pupil 5 5 9 9;");
        for (int left = 9; left >= 0; left--) Check.due("work of 1", left, x.work(0, left % 2, 1));
        Check.due("work without STRENGTH", -2, x.work(0, 0, 1));
        Check.due("STRENGTH of the other", 10, x.pupil(1, 5));
        Check.due("sums", 5, x.pupil(0, 9));
        Check.due("verses", 5, x.pupil(0, 10));
    }

    private static void workRefused() {
        dueDone("work of twenty", 40, apart(""), x -> x.work(0, 0, 20));
        dueDone("work of one to twenty", 40, apart("work 0 sums 19;"), x -> x.work(0, 0, 1));
        dueRefused("work of one to 21", 3, apart("work 0 sums 20;"), x -> x.work(0, 0, 1));
        dueRefused("work of twenty to 21", 3, apart("work 0 verses 1;"), x -> x.work(0, 1, 20));
        dueDone("work beside a full satchel", 20, apart("work 0 sums 20;"), x -> x.work(0, 1, 20));
        dueRefused("work, too weak and too full", 2, apart("work 1 sums 20;"), x -> x.work(1, 0, 20));
        dueRefused("work of verses, too weak", 2, apart(""), x -> x.work(1, 1, 7));
        dueDone("work of verses, just strong enough", 6, apart(""), x -> x.work(1, 1, 6));
        Supplier<HomeworkBarter> weak = () -> Check.school("school 21 1 0 0;pupil 0 0 9 9;pupil 0 1 9 9;pupil 1 1 9 9 spy;",
            "swap 0 1 0 0;pass 1;");
        dueRefused("work of one who is detained, too weak", 2, weak, x -> x.work(1, 0, 11));
        dueDone("work of one who is detained, just strong enough", 0, weak, x -> x.work(1, 0, 10));
        dueDone("work of one who is detained", 30 - 4 - 16, EdgesActsTest::detained, x -> x.work(0, 0, 16));
        dueRefused("work of one who is detained, too full", 3, EdgesActsTest::detained, x -> x.work(0, 0, 18));
    }

    // ---- promise 43

    private static void swapToTheLastPiece() {
        dueDone("swap of nothing", 0, apart(""), x -> x.swap(0, 1, 0, 0));
        dueDone("swap of all sums for nothing", 0, apart("work 0 sums 20;"), x -> x.swap(0, 3, 20, 0));
        dueDone("swap of nothing for all verses", 0, apart("work 3 verses 20;"), x -> x.swap(0, 3, 0, 20));
        dueDone("swap of twenty for twenty", 0, apart("work 0 sums 20;work 3 verses 20;"), x -> x.swap(0, 3, 20, 20));
        dueDone("swap to twenty and twenty", 0, apart("work 0 sums 5;work 3 sums 15;work 0 verses 14;work 3 verses 6;"),
            x -> x.swap(0, 3, 5, 6));
        dueDone("swap of full satchels that stay full", 0, apart("work 0 sums 20;work 3 verses 20;work 0 verses 20;"
            + "work 3 sums 20;"), x -> x.swap(0, 3, 0, 0));
        HomeworkBarter x = Check.school(APART, "work 0 sums 7;work 0 verses 8;work 3 sums 9;work 3 verses 10;");
        Check.due("swap(0, 3, 7, 10)", 0, x.swap(0, 3, 7, 10));
        Check.due("sums of 0", 0, x.pupil(0, 9));
        Check.due("verses of 0", 18, x.pupil(0, 10));
        Check.due("sums of 3", 16, x.pupil(3, 9));
        Check.due("verses of 3", 0, x.pupil(3, 10));
        Check.due("debts", 0, x.count(8));
    }

    private static void swapRefused() {
        dueRefused("swap with itself", 5, apart("work 0 sums 1;"), x -> x.swap(0, 0, 0, 0));
        dueRefused("swap with itself, of more than it has", 5, apart(""), x -> x.swap(3, 3, 20, 20));
        dueRefused("swap with itself, detained", 5, EdgesActsTest::detained, x -> x.swap(1, 1, 1, 0));
        dueRefused("swap of one who is detained", 1, EdgesActsTest::detained, x -> x.swap(0, 3, 1, 1));
        dueRefused("swap with one who is detained", 1, EdgesActsTest::detained, x -> x.swap(3, 0, 1, 1));
        dueRefused("swap of two who are detained", 1, EdgesActsTest::detained, x -> x.swap(0, 1, 0, 0));
        dueRefused("swap with one who is detained, of too many", 1, EdgesActsTest::detained, x -> x.swap(3, 0, 20, 20));
        dueRefused("swap of one sum too many", 4, apart("work 0 sums 3;work 1 sums 9;"), x -> x.swap(0, 1, 4, 0));
        dueRefused("swap of one verse too many", 4, apart("work 3 verses 3;work 0 verses 9;"), x -> x.swap(0, 3, 0, 4));
        dueRefused("swap of one sum from none", 4, apart("work 3 sums 9;work 3 verses 1;"), x -> x.swap(0, 3, 1, 1));
        dueRefused("swap of one verse from none", 4, apart("work 0 sums 9;work 0 verses 9;"), x -> x.swap(0, 3, 1, 1));
        String full = "work 0 sums 6;work 3 sums 15;work 0 verses 14;work 3 verses 7;";
        dueRefused("swap of sums to 21", 3, apart(full), x -> x.swap(0, 3, 6, 6));
        dueRefused("swap of verses to 21", 3, apart(full), x -> x.swap(0, 3, 5, 7));
        dueRefused("swap of both to 21", 3, apart(full), x -> x.swap(0, 3, 6, 7));
        dueRefused("swap of one sum too many, to 22", 4, apart(full), x -> x.swap(0, 3, 7, 0));
        dueRefused("swap of one verse too many, to 22", 4, apart(full), x -> x.swap(0, 3, 0, 8));
        dueRefused("swap of sums to 21, of one verse too many", 4, apart(full), x -> x.swap(0, 3, 6, 8));
        dueRefused("swap of one sum too many, of verses to 21", 4, apart(full), x -> x.swap(0, 3, 7, 7));
        dueDone("swap the other way round", 0, apart(full), x -> x.swap(3, 0, 14, 6));
        dueRefused("swap the other way round to 21", 3, apart(full), x -> x.swap(3, 0, 15, 6));
    }

    // ---- promise 44

    /** "which owes it as many of the other SUBJECT for that". */
    private static void lendToTheLastPiece() {
        for (int subject = 0; subject < 2; subject++) {
            for (int pieces : new int[] {1, 2, 19, 20}) {
                HomeworkBarter x = Check.school(APART, subject == 0 ? "work 0 sums 20;" : "work 0 verses 20;");
                Check.due("lend of " + pieces, pieces, x.lend(0, 3, subject, pieces));
                Check.due("owes in the other subject", pieces, x.owes(3, 0, 1 - subject));
                Check.due("owes in the same subject", 0, x.owes(3, 0, subject));
                Check.due("who owes nothing", 0, x.pupil(0, 11));
                Check.due("what it has", pieces, x.pupil(3, 9 + subject));
                Check.due("what stays", 20 - pieces, x.pupil(0, 9 + subject));
                Check.due("debts", 1, x.count(8));
                Check.due("loans", 1, x.tally(3));
            }
        }
        dueDone("lend to twenty", 5, apart("work 0 sums 5;work 3 sums 15;"), x -> x.lend(0, 3, 0, 5));
        HomeworkBarter both = Check.school(APART, "work 0 sums 20;work 3 sums 5;lend 0 3 sums 3;");
        Check.due("lend the other way round: a debt by itself", 2, both.lend(3, 0, 0, 2));
        Check.due("what 3 owes stays", 3, both.owes(3, 0, 1));
    }

    private static void lendRefused() {
        dueRefused("lend to itself", 5, apart("work 0 sums 1;"), x -> x.lend(0, 0, 0, 1));
        dueRefused("lend to itself of more than it has", 5, apart(""), x -> x.lend(0, 0, 1, 20));
        dueRefused("lend to itself, detained", 5, EdgesActsTest::detained, x -> x.lend(0, 0, 0, 1));
        dueRefused("lend of one who is detained", 1, EdgesActsTest::detained, x -> x.lend(0, 3, 0, 1));
        dueRefused("lend to one who is detained", 1, EdgesActsTest::detained, x -> x.lend(3, 0, 0, 1));
        dueRefused("lend to one who is detained, of too many", 1, EdgesActsTest::detained, x -> x.lend(3, 1, 0, 20));
        dueRefused("lend of one too many", 4, apart("work 0 sums 3;work 0 verses 9;"), x -> x.lend(0, 3, 0, 4));
        dueRefused("lend of one from none", 4, apart("work 0 sums 3;"), x -> x.lend(0, 3, 1, 1));
        dueRefused("lend to 21", 3, apart("work 0 verses 6;work 3 verses 15;"), x -> x.lend(0, 3, 1, 6));
        dueRefused("lend of one to a full satchel", 3, apart("work 0 verses 6;work 3 verses 20;"), x -> x.lend(0, 3, 1, 1));
        dueRefused("lend of one too many, to 22", 4, apart("work 0 verses 6;work 3 verses 15;"), x -> x.lend(0, 3, 1, 7));
    }

    /** "9 a debt would be of more than 99 pieces, or be the 31st one". */
    private static void lendTo99AndTo30() {
        String deep = "work 0 sums 20;lend 0 2 sums 20;swap 2 3 20 0;" + "pass 10;".repeat(7);
        Supplier<HomeworkBarter> at90 = apart(deep + "work 0 sums 20;");
        dueDone("lend from 90 to 99", 99, at90, x -> x.lend(0, 2, 0, 9));
        dueRefused("lend from 90 to 100", 9, at90, x -> x.lend(0, 2, 0, 10));
        dueRefused("lend from 90 to 110", 9, at90, x -> x.lend(0, 2, 0, 20));
        Supplier<HomeworkBarter> at99 = apart(deep + "work 0 sums 20;lend 0 2 sums 9;");
        dueRefused("lend from 99 to 100", 9, at99, x -> x.lend(0, 2, 0, 1));
        dueDone("lend to another one", 1, at99, x -> x.lend(0, 1, 0, 1));
        dueDone("lend the other way round", 1, at99, x -> x.lend(2, 0, 0, 1));
        dueDone("lend of the other subject", 5, apart(deep + "work 0 verses 20;"), x -> x.lend(0, 2, 1, 5));
        dueRefused("lend to 100, too full", 3, apart(deep + "work 0 sums 20;work 2 sums 11;"), x -> x.lend(0, 2, 0, 10));
        dueRefused("lend to 100, too few", 4, apart(deep + "work 0 sums 9;"), x -> x.lend(0, 2, 0, 10));
        String sums = "work 0 verses 20;lend 0 2 verses 20;swap 3 2 0 20;" + "pass 10;".repeat(7) + "work 0 verses 20;";
        dueDone("lend of verses from 90 to 99", 99, apart(sums), x -> x.lend(0, 2, 1, 9));
        dueRefused("lend of verses from 90 to 100", 9, apart(sums), x -> x.lend(0, 2, 1, 10));
        dueRefused("a 31st debt", 9, Fixtures::thirtyDebts, x -> x.lend(6, 0, 0, 1));
        dueRefused("a 31st debt of the other subject", 9, Fixtures::thirtyDebts, x -> x.lend(0, 1, 1, 1));
        dueRefused("a 31st debt of one without any", 9, Fixtures::thirtyDebts, x -> x.lend(0, 6, 0, 1));
        dueDone("the first of thirty debts grows", 2, Fixtures::thirtyDebts, x -> x.lend(0, 1, 0, 1));
        dueDone("the last of thirty debts grows", 3, Fixtures::thirtyDebts, x -> x.lend(5, 4, 0, 2));
        dueThirtyOfThirty();
    }

    private static void dueThirtyOfThirty() {
        HomeworkBarter x = Fixtures.thirtyDebts();
        Check.due("payBack of the first debt", 0, x.payBack(1, 0, 1, 1));
        Check.due("debts", 29, x.count(8));
        Check.due("lend of a 30th", 7, x.lend(6, 0, 0, 7));
        Check.due("debts", 30, x.count(8));
        Check.due("who owes it", 0, x.debt(29, 0));
        Check.due("its pieces", 7, x.debt(29, 3));
        Check.due("the one that was the last", 4, x.debt(28, 0));
        Check.due("lend of a 31st", -9, x.lend(0, 1, 0, 1));
        x.undo();
        Check.due("debts behind undo", 29, x.count(8));
        Check.due("lend of a 30th", 1, x.lend(0, 1, 0, 1));
    }

    // ---- promise 45

    /** "Returns what it owes then in this SUBJECT": 0 as all is paid, and the debt is gone then. */
    private static void payBackToTheLastPiece() {
        for (int pieces = 1; pieces <= 4; pieces++) {
            HomeworkBarter x = Check.school(APART, "work 0 sums 9;work 3 verses 9;lend 0 3 sums 4;");
            Check.due("payBack of " + pieces + " of 4", 4 - pieces, x.payBack(3, 0, 1, pieces));
            Check.due("debts", pieces == 4 ? 0 : 1, x.count(8));
            Check.due("owes", 4 - pieces, x.owes(3, 0, 1));
            Check.due("verses of 3", 9 - pieces, x.pupil(3, 10));
            Check.due("verses of 0", pieces, x.pupil(0, 10));
            Check.due("pieces that were paid back", pieces, x.tally(4));
            Check.due("debtOf", pieces == 4 ? -1 : 0, x.debtOf(3, 0));
        }
        Supplier<HomeworkBarter> twenty = apart("work 0 sums 20;lend 0 3 sums 12;pass 8;work 3 verses 20;");
        dueDone("payBack of 20 of 20", 0, twenty, x -> x.payBack(3, 0, 1, 20));
        dueDone("payBack of 19 of 20", 1, twenty, x -> x.payBack(3, 0, 1, 19));
        Supplier<HomeworkBarter> deep = apart("work 0 sums 20;lend 0 3 sums 20;" + "pass 10;".repeat(8)
            + "work 3 verses 20;");
        dueDone("payBack of 20 of 99", 79, deep, x -> x.payBack(3, 0, 1, 20));
        dueDone("payBack to twenty", 1, apart("work 0 sums 20;lend 0 3 sums 6;work 0 verses 15;work 3 verses 9;"),
            x -> x.payBack(3, 0, 1, 5));
        HomeworkBarter two = Check.school(APART, "work 0 sums 9;work 2 verses 9;work 3 verses 9;work 3 sums 9;"
            + "lend 0 3 sums 4;lend 2 3 verses 2;");
        Check.due("payBack of the debt in verses", 1, two.payBack(3, 0, 1, 3));
        Check.due("payBack of the debt in sums", 1, two.payBack(3, 2, 0, 1));
    }

    private static void payBackRefused() {
        String lent = "work 0 sums 9;work 3 verses 9;work 3 sums 5;work 0 verses 5;lend 0 3 sums 4;";
        dueRefused("payBack to itself", 5, apart(lent), x -> x.payBack(3, 3, 1, 1));
        dueRefused("payBack to itself, detained", 5, EdgesActsTest::detained, x -> x.payBack(0, 0, 1, 1));
        dueRefused("payBack of one more than it owes", 6, apart(lent), x -> x.payBack(3, 0, 1, 5));
        dueRefused("payBack in the other subject", 6, apart(lent), x -> x.payBack(3, 0, 0, 1));
        dueRefused("payBack the other way round", 6, apart(lent), x -> x.payBack(0, 3, 1, 1));
        dueRefused("payBack to another one", 6, apart(lent), x -> x.payBack(3, 2, 1, 1));
        dueRefused("payBack of another one", 6, apart(lent), x -> x.payBack(2, 0, 1, 1));
        dueRefused("payBack without debts", 6, apart("work 3 verses 9;"), x -> x.payBack(3, 0, 1, 1));
        dueRefused("payBack of no debt, without pieces", 6, apart(""), x -> x.payBack(3, 0, 1, 20));
        dueRefused("payBack of no debt, detained", 6, EdgesActsTest::detained, x -> x.payBack(1, 3, 1, 1));
        dueRefused("payBack of more than it owes, detained", 6, EdgesActsTest::detained, x -> x.payBack(0, 3, 1, 3));
        dueRefused("payBack of one who is detained", 1, EdgesActsTest::detained, x -> x.payBack(0, 3, 1, 1));
        dueRefused("payBack of one who is detained, of too many", 1, EdgesActsTest::detained, x -> x.payBack(0, 3, 1, 2));
        dueRefused("payBack to one who is detained", 1, EdgesActsTest::detained, x -> x.payBack(3, 0, 0, 1));
        String few = "work 0 sums 9;work 3 verses 3;work 3 sums 9;lend 0 3 sums 4;";
        dueRefused("payBack of one more than it has", 4, apart(few), x -> x.payBack(3, 0, 1, 4));
        dueDone("payBack of what it has", 1, apart(few), x -> x.payBack(3, 0, 1, 3));
        dueRefused("payBack of one more than it has, too full", 4, apart(few + "work 0 verses 20;"),
            x -> x.payBack(3, 0, 1, 4));
        dueRefused("payBack to 21", 3, apart(few + "work 0 verses 18;"), x -> x.payBack(3, 0, 1, 3));
        dueDone("payBack to 20", 2, apart(few + "work 0 verses 18;"), x -> x.payBack(3, 0, 1, 2));
    }

    // ---- promise 46

    private static void moves() {
        for (int bench = 0; bench < 36; bench++) {
            int row = bench / 6;
            int seat = bench % 6;
            boolean isTaken = bench == 0 || bench == 5 || bench == 30 || bench == 35;
            if (isTaken) {
                dueRefused("move to the bench " + bench, 7, apart(""), x -> x.move(3, row, seat));
                continue;
            }
            int near = 0;
            for (int taken : new int[] {0, 5, 30}) {
                if (Math.abs(taken / 6 - row) <= 1 && Math.abs(taken % 6 - seat) <= 1) near++;
            }
            dueDone("move to the bench " + bench, near, apart(""), x -> x.move(3, row, seat));
        }
        HomeworkBarter x = Check.school(APART);
        Check.due("move", 0, x.move(3, 3, 3));
        Check.due("ROW", 3, x.pupil(3, 0));
        Check.due("SEAT", 3, x.pupil(3, 1));
        Check.due("the bench that was left is free", 0, x.move(2, 5, 5));
        Check.due("back again", 1, x.move(3, 4, 4));
        Check.due("two ROWS away from 2", 0, x.move(3, 3, 5));
    }

    private static void moveRefused() {
        dueRefused("move to another's bench", 7, apart(""), x -> x.move(0, 0, 5));
        dueRefused("move to its own bench", 7, apart(""), x -> x.move(0, 0, 0));
        dueRefused("move of one who is detained", 1, EdgesActsTest::detained, x -> x.move(0, 4, 4));
        dueRefused("move of one who is detained to another's bench", 1, EdgesActsTest::detained, x -> x.move(0, 5, 5));
        dueRefused("move of one who is detained to its own bench", 1, EdgesActsTest::detained, x -> x.move(1, 0, 1));
        dueRefused("move of one who is free to the bench of one who is detained", 7, EdgesActsTest::detained,
            x -> x.move(3, 0, 1));
        HomeworkBarter x = detained();
        x.pass(1);
        Check.due("move of one who is free again", 0, x.move(0, 4, 0));
    }

    // ---- promise 47

    /** "half of what it is, rounded down"; refused for 8 if PROOF is 0. */
    private static void confessions() {
        HomeworkBarter x = Check.school("school 60 20 0 0;pupil 0 0 9 9;pupil 0 1 9 9;pupil 1 1 9 9 spy;pupil 1 0 9 9 spy;");
        for (int proof = 1; proof <= 11; proof++) {
            x.save(0);
            x.swap(0, 2, 0, 0);
            x.save(1);
            Check.due("PROOF", proof, x.pupil(0, 6));
            Check.due("confess at PROOF " + proof, proof / 2, x.confess(0));
            Check.due("PROOF behind it", proof / 2, x.pupil(0, 6));
            Check.due("WITNESSES behind it", 0, x.pupil(0, 13));
            Check.due("witness behind it", -1, x.witness(0, 0));
            Check.due("MARKS behind it", 1, x.pupil(0, 7));
            Check.due("PROOF of the other", proof, x.pupil(2, 6));
            Check.due("WITNESSES against the other", 1, x.pupil(2, 13));
            Check.due("MARKS of the other", 0, x.pupil(2, 7));
            x.restore(1);
        }
        Check.due("a second confession", 2, confessedTwice(x));
        Supplier<HomeworkBarter> none = () -> Check.school("school 60 20 0 0;pupil 0 0 9 9;pupil 0 1 9 9;pupil 1 1 9 9 spy;",
            "swap 0 1 0 0;confess 0;");
        dueRefused("confess at PROOF 0, with MARKS", 8, none, y -> y.confess(0));
        dueRefused("confess at PROOF 0 of one who is detained", 8, EdgesActsTest::detained, y -> y.confess(0));
        dueDone("confess at PROOF 1", 0, none, y -> y.confess(1));
    }

    /** PROOF 11 is 5, and then 2. */
    private static int confessedTwice(HomeworkBarter x) {
        x.confess(0);
        return x.confess(0);
    }

    // ---- promise 48

    /** "Weeks end, one after the other"; "Returns the punishments in them". */
    private static void passes() {
        for (int weeks = 1; weeks <= 10; weeks++) {
            int number = weeks;
            String setup = "school 60 2 2 1;pupil 0 0 9 9;pupil 0 1 9 9;pupil 1 1 9 9 spy;pupil 5 5 9 9;";
            String script = "work 3 sums 20;work 3 verses 20;lend 3 2 sums 9;lend 3 2 verses 9;swap 0 1 0 0;swap 0 1 0 0;";
            HomeworkBarter one = Check.school(setup, script);
            HomeworkBarter each = Check.school(setup, script);
            int punished = 0;
            for (int i = 0; i < weeks; i++) punished += each.pass(1);
            Check.due("pass(" + weeks + ")", punished, one.pass(number));
            Check.due("state behind pass(" + weeks + ")", Check.state(each), Check.state(one));
            Check.due("acts behind it", 6, one.count(12));
            Check.due("punishments", punished, one.tally(8));
            one.undo();
            Check.due("WEEK behind undo of all of them", 0, one.count(1));
        }
    }

    /** Two are punished in the first week, and one in the third, by a verse more of one maker in each week. */
    private static void punishmentsOfSeveralWeeks() {
        int[] punished = {2, 2, 3, 3, 3, 3, 3, 3, 3, 3};
        for (int weeks = 1; weeks <= 10; weeks++) {
            HomeworkBarter x = Check.school("school 60 3 0 2;pupil 0 0 9 9;pupil 0 1 9 9;pupil 1 1 9 9 spy;pupil 5 5 9 9;"
                + "pupil 5 3 9 9;", "work 3 verses 20;lend 3 4 verses 9;swap 0 1 0 0;swap 0 1 0 0;swap 0 1 0 0;");
            Check.due("pass(" + weeks + ")", punished[weeks - 1], x.pass(weeks));
            Check.due("punishments behind it", punished[weeks - 1], x.tally(8));
        }
    }

    private static HomeworkBarter atWeek(int week) {
        HomeworkBarter x = new HomeworkBarter();
        while (x.count(1) + 10 <= week) x.pass(10);
        if (x.count(1) < week) x.pass(week - x.count(1));
        return x;
    }

    /** "10 WEEK would be above 999": none of the weeks ends then. */
    private static void passRefused() {
        for (int week = 988; week <= 999; week++) {
            int from = week;
            for (int weeks : new int[] {1, 998 - week, 999 - week, 1000 - week, 10}) {
                if (weeks < 1 || weeks > 10) continue;
                String call = "pass(" + weeks + ") at WEEK " + week;
                if (week + weeks > 999) {
                    Check.due(call, -10, atWeek(from).pass(weeks));
                } else {
                    HomeworkBarter x = atWeek(from);
                    Check.due(call, 0, x.pass(weeks));
                    Check.due("WEEK behind " + call, week + weeks, x.count(1));
                    Check.due("refusals for 10 behind " + call, 0, x.refusals(10));
                }
            }
        }
        dueRefused("pass(1) at WEEK 999", 10, () -> atWeek(999), x -> x.pass(1));
        dueRefused("pass(10) at WEEK 990", 10, () -> atWeek(990), x -> x.pass(10));
        HomeworkBarter last = atWeek(999);
        Check.due("play of a pass too much", 0, Check.play(last, "pass 1;work 0 sums 1;"));
        Check.due("refusals", 1, last.refusals(10));
        Check.due("other acts go on at the last WEEK", 28, last.work(0, 0, 1));
        last.undo();
        last.undo();
        Check.due("WEEK behind undo", 990, last.count(1));
        Check.due("pass again", 0, last.pass(9));
        Check.due("load begins at WEEK 0", 4, Check.load(last, APART));
        Check.due("pass behind load", 0, last.pass(10));
    }

    // ---- the first reason that applies, alone of all

    private static void oneReasonAlone() {
        HomeworkBarter x = detained();
        Check.due("swap", -5, x.swap(0, 0, 20, 20));
        Check.due("swap", -1, x.swap(0, 3, 20, 20));
        Check.due("lend", -5, x.lend(0, 0, 1, 20));
        Check.due("lend", -1, x.lend(3, 0, 1, 20));
        Check.due("payBack", -5, x.payBack(0, 0, 1, 20));
        Check.due("payBack", -6, x.payBack(0, 3, 1, 20));
        Check.due("payBack", -1, x.payBack(0, 3, 1, 2));
        Check.due("move", -1, x.move(0, 0, 0));
        Check.due("confess", -8, x.confess(0));
        Check.due("refusals", "4 0 0 0 3 1 0 1 0 0 ", Check.refusals(x));
    }
}
