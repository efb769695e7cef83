/** The boundary cases of promises 32 to 41, sentence by sentence: what would be and what will be. */
public final class EdgesForesightTest {
    private static final String APART = "school 60 20 0 0;pupil 0 0 9 9;pupil 0 5 9 9;pupil 5 0 9 9;pupil 5 5 9 9;";

    public static void main(String[] args) {
        nothingChanges();
        piecesByStrength();
        ifTheWeekEnded();
        ifWeeksPassed();
        ifPunishmentsCome();
        weeksUntilItIsFree();
        spiesByBenches();
        reasonsOfSwaps();
        reasonsOfLoans();
        theSafestBench();
        theSafestBenchOfTwelve();
        theSafestPartner();
        weeksUntilItDrowns();
        Check.end();
    }

    /** Detained pupils, debts, satchels, spies; some PROOF that is not yet looked at. */
    private static HomeworkBarter lived() {
        HomeworkBarter x = Check.school("school 60 2 2 1;pupil 0 0 9 9;pupil 0 1 9 9;pupil 1 1 9 9 spy;pupil 5 5 9 9;"
            + "pupil 4 4 9 9 spy;", "work 0 sums 9;work 1 verses 9;lend 0 1 sums 3;swap 0 1 1 2;pass 1;work 3 verses 9;"
            + "work 3 sums 9;lend 3 2 verses 5;lend 2 3 verses 1;");
        Check.due("detained", 2, x.count(10));
        return x;
    }

    /** "(nothing changes)". */
    private static void nothingChanges() {
        Check.dueNoChange("what would be", EdgesForesightTest::lived, x -> {
            for (int pupil = 0; pupil < 5; pupil++) {
                for (int what = 0; what < 2; what++) {
                    x.couldMake(pupil, what);
                    x.drownsIn(pupil, what);
                    x.ifWeek(pupil, what + 1);
                    x.whyLend(pupil, 3, what, 1);
                    x.whySwap(pupil, 3, what, what);
                }
                x.freeIn(pupil);
                x.safestBench(pupil);
                x.safestPartner(pupil);
                x.ifMoved(pupil, 0, 0);
            }
        });
        for (int what = 0; what < 4; what++) {
            int one = what;
            Check.dueNoChange("ifPassed(30, " + what + ")", EdgesForesightTest::lived, x -> x.ifPassed(30, one));
            Check.dueNoChange("ifPassed(1, " + what + ")", EdgesForesightTest::lived, x -> x.ifPassed(1, one));
            Check.dueNoChange("ifPassed(0, " + what + ")", EdgesForesightTest::lived, x -> x.ifPassed(0, one));
        }
        Check.dueNoChange("freeIn of one who is detained", EdgesForesightTest::lived, x -> x.freeIn(0));
    }

    /** "how many pieces it could make with its STRENGTH": each SKILL, to the last piece and no further. */
    private static void piecesByStrength() {
        for (int skill = 1; skill <= 9; skill++) {
            String pupil = "pupil 0 0 " + skill + " " + (10 - skill) + ";pupil 5 5 1 1;";
            for (int work = 10; work <= 60; work++) {
                HomeworkBarter x = Check.school("school " + work + " 1 0 0;" + pupil);
                int sums = work / (10 - skill);
                Check.due("couldMake of sums, WORK " + work + " SKILL " + skill, sums, x.couldMake(0, 0));
                Check.due("couldMake of verses, WORK " + work + " SKILL " + (10 - skill), work / skill, x.couldMake(0, 1));
                if (sums < 20) Check.due("work of one more", -2, x.work(0, 0, sums + 1));
                int made = Math.min(sums, 20);
                Check.due("work of so many", work - made * (10 - skill), x.work(0, 0, made));
                Check.due("couldMake then", (work - made * (10 - skill)) / (10 - skill), x.couldMake(0, 0));
            }
        }
        HomeworkBarter none = Check.school("school 10 1 0 0;pupil 0 0 9 9;pupil 5 5 1 1;", "work 0 sums 10;");
        Check.due("couldMake with STRENGTH 0", 0, none.couldMake(0, 0) + none.couldMake(0, 1));
        HomeworkBarter detained = Check.school("school 11 1 0 0;pupil 0 0 9 8;pupil 0 1 9 9;pupil 1 1 9 9 spy;",
            "swap 0 1 0 0;pass 1;");
        Check.due("couldMake of one who is detained: 5 by 1", 5, detained.couldMake(0, 0));
        Check.due("couldMake of one who is detained: 5 by 2", 2, detained.couldMake(0, 1));
    }

    /** What ifWeek tells is what comes, for each pupil, by and by. */
    private static void ifTheWeekEnded() {
        HomeworkBarter x = lived();
        // 0 and 1 are detained for a week and have nothing; the spy 4 saw two loans of 2 and 3, which is LIMIT.
        int[] lacking = {3, 3, 2, 0, 3};
        int[] detention = {0, 0, 1, 1, 0};
        int[] marks = new int[5];
        for (int pupil = 0; pupil < 5; pupil++) {
            Check.due("ifWeek(" + pupil + ", 0)", lacking[pupil], x.ifWeek(pupil, 0));
            Check.due("ifWeek(" + pupil + ", 1), a verse of another alone", 0, x.ifWeek(pupil, 1));
            Check.due("ifWeek(" + pupil + ", 2)", detention[pupil], x.ifWeek(pupil, 2));
            marks[pupil] = x.pupil(pupil, 7) + lacking[pupil];
        }
        x.pass(1);
        for (int pupil = 0; pupil < 5; pupil++) {
            Check.due("MARKS of " + pupil, marks[pupil], x.pupil(pupil, 7));
            Check.due("DETENTION of " + pupil, detention[pupil], x.pupil(pupil, 8));
        }
        Check.due("ifWeek(2, 2) at DETENTION 1", 0, x.ifWeek(2, 2));
    }

    /** "weeks: 0 to 30". */
    private static void ifWeeksPassed() {
        HomeworkBarter x = Check.school("school 60 20 1 0;pupil 0 0 9 9;pupil 0 5 9 9;pupil 5 5 9 9;",
            "work 0 sums 20;work 1 verses 9;lend 1 2 verses 4;lend 1 2 verses 1;lend 0 1 sums 1;");
        for (int weeks = 0; weeks <= 30; weeks++) {
            int marks = Math.max(weeks - 19, 0) + Math.max(weeks - 1, 0) + weeks;
            Check.due("MARKS behind " + weeks + " weeks", marks, x.ifPassed(weeks, 0));
            Check.due("pieces owed behind " + weeks + " weeks", 6 + 2 * weeks, x.ifPassed(weeks, 1));
            Check.due("detained behind " + weeks + " weeks", 0, x.ifPassed(weeks, 2));
            int pieces = 9 + Math.max(19 - weeks, 0) + Math.max(1 - weeks, 0);
            Check.due("pieces behind " + weeks + " weeks", pieces, x.ifPassed(weeks, 3));
        }
        for (int i = 0; i < 3; i++) x.pass(10);
        Check.due("MARKS behind 30 weeks", 11 + 29 + 30, x.ifPassed(0, 0));
        Check.due("pieces owed behind 30 weeks", 66, x.ifPassed(0, 1));
        Check.due("pieces behind 30 weeks", 9, x.ifPassed(0, 3));
        for (int i = 0; i < 6; i++) x.pass(10);
        // The debts are of 95 and 91 pieces.
        int[] owed = {186, 188, 190, 192, 194, 195, 196, 197, 198, 198, 198};
        for (int weeks = 0; weeks <= 10; weeks++) {
            Check.due("pieces owed, 99 at most, behind " + weeks, owed[weeks], x.ifPassed(weeks, 1));
        }
        Check.due("pieces owed behind 30 weeks more", 198, x.ifPassed(30, 1));
    }

    private static void ifPunishmentsCome() {
        String setup = "school 60 1 1 1;pupil 0 0 9 9;pupil 0 1 9 9;pupil 1 1 9 9 spy;";
        HomeworkBarter x = Check.school(setup, "work 0 sums 9;work 2 sums 3;work 2 verses 3;" + "swap 0 1 0 0;".repeat(7));
        int[] detained = {0, 2, 2, 2, 0, 0};
        int[] pieces = {15, 4, 2, 0, 0, 0};
        int[] marks = {0, 3, 7, 11, 17, 23};
        for (int weeks = 0; weeks < 6; weeks++) {
            Check.due("detained behind " + weeks + " weeks", detained[weeks], x.ifPassed(weeks, 2));
            Check.due("pieces behind " + weeks + " weeks", pieces[weeks], x.ifPassed(weeks, 3));
            Check.due("MARKS behind " + weeks + " weeks", marks[weeks], x.ifPassed(weeks, 0));
        }
        // A punishment that comes in the second week, by pieces that are handed in only then.
        HomeworkBarter y = Check.school("school 60 1 0 2;pupil 0 0 9 9;pupil 0 5 9 9;", "work 0 verses 9;work 1 verses 2;"
            + "lend 0 1 verses 2;");
        Check.due("ifWeek", 0, y.ifWeek(1, 2));
        int[] later = {0, 0, 1, 0};
        for (int weeks = 0; weeks < 4; weeks++) Check.due("detained, week " + weeks, later[weeks], y.ifPassed(weeks, 2));
        Check.due("freeIn of one who is not detained now", 0, y.freeIn(1));
    }

    /** "0 if it is not now": it is DETENTION, from 1 to 9. */
    private static void weeksUntilItIsFree() {
        for (int weeks = 1; weeks <= 9; weeks++) {
            HomeworkBarter x = Check.school("school 60 1 9 9;pupil 0 0 9 9;pupil 0 1 9 9;pupil 1 1 9 9 spy;",
                "swap 0 1 0 0;");
            for (int seen = 1; seen < 3 * weeks - 2; seen++) x.swap(0, 1, 0, 0);
            Check.due("freeIn ahead of the punishment", 0, x.freeIn(0));
            x.pass(1);
            for (int left = weeks; left >= 0; left--) {
                Check.due("freeIn at DETENTION " + left, left, x.freeIn(0));
                Check.due("DETENTION", left, x.pupil(0, 8));
                Check.due("freeIn of the spy", 0, x.freeIn(2));
                x.work(0, 0, 9);
                x.pass(1);
            }
        }
    }

    /** "(not detained, none of itself) would be NEAR it on this bench, be that taken or not". */
    private static void spiesByBenches() {
        HomeworkBarter x = Check.school("school 60 1 0 0;pupil 0 0 9 9;pupil 2 2 9 9 spy;pupil 2 3 9 9 spy;pupil 5 5 9 9;");
        Check.due("a bench that is taken by a spy", 2, x.ifMoved(0, 2, 2));
        Check.due("a bench that is taken by another", 0, x.ifMoved(0, 5, 5));
        Check.due("its own bench", 0, x.ifMoved(0, 0, 0));
        Check.due("near one of both", 1, x.ifMoved(0, 1, 1));
        Check.due("near both", 2, x.ifMoved(0, 3, 3));
        Check.due("a spy on its own bench", 1, x.ifMoved(1, 2, 2));
        Check.due("a spy on another bench near its own", 0, x.ifMoved(1, 1, 1));
        Check.due("a spy on the bench of another spy", 1, x.ifMoved(1, 2, 3));
        x.swap(1, 3, 0, 0);
        x.pass(1);
        Check.due("DETENTION of the spy 1", 1, x.pupil(1, 8));
        Check.due("near one who is detained", 0, x.ifMoved(0, 1, 1));
        Check.due("near both, of whom one is detained", 1, x.ifMoved(0, 3, 3));
        Check.due("of one who is detained itself", 1, x.ifMoved(1, 3, 3));
        x.pass(1);
        Check.due("near both, who are free", 2, x.ifMoved(0, 3, 3));
    }

    // ---- promises 37 and 38: the same reason as the act's, and 0 where it would be done

    private static void dueSwap(String what, HomeworkBarter x, int reason, int pupil, int other, int sums, int verses) {
        String before = Check.refusals(x);
        Check.due("whySwap, " + what, reason, x.whySwap(pupil, other, sums, verses));
        Check.due("refusals behind whySwap, " + what, before, Check.refusals(x));
        int answer = x.swap(pupil, other, sums, verses);
        Check.due("swap, " + what, reason == 0, answer >= 0);
        if (reason > 0) Check.due("swap, " + what, -reason, answer);
        else x.undo();
    }

    private static HomeworkBarter satchels() {
        return Check.school("school 60 1 0 0;pupil 0 0 9 9;pupil 0 1 9 9;pupil 1 1 9 9 spy;pupil 5 5 9 9;pupil 5 3 9 9;",
            "swap 0 1 0 0;pass 1;work 3 sums 5;work 4 verses 6;work 3 verses 17;work 4 sums 18;");
    }

    private static void reasonsOfSwaps() {
        dueSwap("nothing", satchels(), 0, 3, 4, 0, 0);
        dueSwap("sums to 20", satchels(), 0, 3, 4, 2, 0);
        dueSwap("sums to 21", satchels(), 3, 3, 4, 3, 0);
        dueSwap("verses to 20", satchels(), 0, 3, 4, 0, 3);
        dueSwap("verses to 21", satchels(), 3, 3, 4, 0, 4);
        dueSwap("both to 20", satchels(), 0, 3, 4, 2, 3);
        dueSwap("both to 21", satchels(), 3, 3, 4, 3, 4);
        dueSwap("all sums", satchels(), 3, 3, 4, 5, 0);
        dueSwap("one sum too many", satchels(), 4, 3, 4, 6, 0);
        dueSwap("all verses", satchels(), 3, 3, 4, 0, 6);
        dueSwap("one verse too many", satchels(), 4, 3, 4, 0, 7);
        dueSwap("one sum too many, verses to 21", satchels(), 4, 3, 4, 6, 4);
        dueSwap("sums to 21, one verse too many", satchels(), 4, 3, 4, 3, 7);
        dueSwap("itself", satchels(), 5, 3, 3, 0, 0);
        dueSwap("itself, too many", satchels(), 5, 3, 3, 20, 20);
        dueSwap("itself, detained", satchels(), 5, 0, 0, 20, 0);
        dueSwap("the first is detained", satchels(), 1, 0, 4, 0, 0);
        dueSwap("the other is detained", satchels(), 1, 4, 1, 0, 0);
        dueSwap("both are detained", satchels(), 1, 0, 1, 0, 0);
        dueSwap("detained, too many", satchels(), 1, 3, 0, 20, 20);
    }

    private static void dueLoan(String what, HomeworkBarter x, int reason, int pupil, int other, int subject, int pieces) {
        String before = Check.refusals(x);
        Check.due("whyLend, " + what, reason, x.whyLend(pupil, other, subject, pieces));
        Check.due("refusals behind whyLend, " + what, before, Check.refusals(x));
        int answer = x.lend(pupil, other, subject, pieces);
        Check.due("lend, " + what, reason == 0, answer >= 0);
        if (reason > 0) Check.due("lend, " + what, -reason, answer);
        else x.undo();
    }

    private static void reasonsOfLoans() {
        dueLoan("sums to 20", satchels(), 0, 3, 4, 0, 2);
        dueLoan("sums to 21", satchels(), 3, 3, 4, 0, 3);
        dueLoan("verses to 20", satchels(), 0, 4, 3, 1, 3);
        dueLoan("verses to 21", satchels(), 3, 4, 3, 1, 4);
        dueLoan("all sums", satchels(), 0, 3, 2, 0, 5);
        dueLoan("one sum too many", satchels(), 4, 3, 2, 0, 6);
        dueLoan("one verse too many, though it has sums", satchels(), 4, 4, 2, 1, 7);
        dueLoan("too many, and into too full a satchel", satchels(), 4, 3, 4, 0, 6);
        dueLoan("itself", satchels(), 5, 3, 3, 0, 1);
        dueLoan("itself, detained", satchels(), 5, 1, 1, 0, 20);
        dueLoan("the first is detained", satchels(), 1, 0, 3, 0, 1);
        dueLoan("the other is detained", satchels(), 1, 3, 0, 0, 1);
        dueLoan("the other is detained, too many", satchels(), 1, 3, 0, 0, 20);
        String deep = "work 0 sums 20;lend 0 1 sums 20;swap 1 2 20 0;" + "pass 10;".repeat(7) + "pass 5;work 0 sums 20;";
        dueLoan("a debt to 99", Check.school(APART, deep), 0, 0, 1, 0, 4);
        dueLoan("a debt to 100", Check.school(APART, deep), 9, 0, 1, 0, 5);
        dueLoan("another debt", Check.school(APART, deep), 0, 0, 3, 0, 20);
        dueLoan("a debt to 100, and too full a satchel", Check.school(APART, deep + "work 1 sums 16;"), 3, 0, 1, 0, 5);
        dueLoan("a debt to 99, and a full satchel", Check.school(APART, deep + "work 1 sums 16;"), 0, 0, 1, 0, 4);
        dueLoan("a debt to 100, and too few pieces", Check.school(APART, deep + "swap 0 3 16 0;"), 4, 0, 1, 0, 5);
        String deepInSums = "work 0 verses 20;lend 0 1 verses 20;swap 2 1 0 20;" + "pass 10;".repeat(7)
            + "pass 5;work 0 verses 20;";
        dueLoan("a debt in sums to 99", Check.school(APART, deepInSums), 0, 0, 1, 1, 4);
        dueLoan("a debt in sums to 100", Check.school(APART, deepInSums), 9, 0, 1, 1, 5);
        dueLoan("a 31st debt", Fixtures.thirtyDebts(), 9, 6, 0, 0, 1);
        dueLoan("a 31st debt in the other subject", Fixtures.thirtyDebts(), 9, 0, 1, 1, 1);
        dueLoan("one of thirty debts", Fixtures.thirtyDebts(), 0, 0, 1, 0, 1);
        dueLoan("a 31st debt of too many pieces", Fixtures.thirtyDebts(), 4, 6, 0, 0, 8);
    }

    // ---- promises 39 and 40

    /** "the free bench on which the fewest spies would be NEAR it, as 6 times ROW plus SEAT, of several the least". */
    private static void theSafestBench() {
        HomeworkBarter x = Check.school(APART);
        Check.due("safestBench(0): its own is taken", 1, x.safestBench(0));
        Check.due("safestBench(3)", 1, x.safestBench(3));
        x.move(0, 3, 3);
        Check.due("safestBench(0): the first bench", 0, x.safestBench(0));
        // Spies so that each free bench but the last one is near one of them at least.
        HomeworkBarter last = Check.school("school 60 20 0 0;pupil 1 1 9 9 spy;pupil 1 4 9 9 spy;pupil 4 1 9 9 spy;"
            + "pupil 3 4 9 9 spy;pupil 4 3 9 9 spy;pupil 4 4 9 9;pupil 0 0 9 9;pupil 2 2 9 9 spy;pupil 2 5 9 9 spy;"
            + "pupil 5 4 9 9;pupil 5 0 9 9 spy;");
        Check.due("ifMoved on the last bench", 0, last.ifMoved(6, 5, 5));
        int zero = 0;
        for (int bench = 0; bench < 36; bench++) {
            if (last.bench(bench / 6, bench % 6) < 0 && last.ifMoved(6, bench / 6, bench % 6) == 0) zero++;
        }
        Check.due("benches near none", 1, zero);
        Check.due("safestBench(6): the last one", 35, last.safestBench(6));
        last.move(5, 5, 5);
        Check.due("safestBench(6) as that is taken: the first of those near one", 1, last.safestBench(6));
    }

    private static void theSafestBenchOfTwelve() {
        // Each bench is near a spy; the ROW 0 is taken, and so is its SEAT 0 in the ROW 1.
        HomeworkBarter x = Check.school("school 60 20 0 0;pupil 0 0 9 9;pupil 0 1 9 9;pupil 0 2 9 9;pupil 0 3 9 9;"
            + "pupil 0 4 9 9;pupil 0 5 9 9;pupil 1 0 9 9;pupil 1 1 9 9 spy;pupil 1 4 9 9 spy;pupil 4 1 9 9 spy;"
            + "pupil 4 4 9 9 spy;pupil 1 2 9 9;");
        Check.due("safestBench(0): near one", 9, x.safestBench(0));
        Check.due("safestBench(7): a spy is none to itself", 12, x.safestBench(7));
        Check.due("safestBench(10)", 21, x.safestBench(10));
        HomeworkBarter y = Check.school("school 60 1 0 0;pupil 5 5 9 9;pupil 0 1 9 9 spy;pupil 1 1 9 9 spy;pupil 5 3 9 9;");
        Check.due("safestBench(0)", 3, y.safestBench(0));
        y.swap(1, 3, 0, 0);
        y.pass(1);
        y.move(2, 3, 3);
        Check.due("safestBench(0): a spy that is detained is none", 0, y.safestBench(0));
    }

    /** "the other pupil, not detained, with whom the fewest spies would see a barter now, of several the lowest". */
    private static void theSafestPartner() {
        HomeworkBarter two = Check.school("school 60 1 0 0;pupil 0 0 9 9;pupil 5 5 9 9;");
        Check.due("safestPartner(0) of two", 1, two.safestPartner(0));
        Check.due("safestPartner(1) of two", 0, two.safestPartner(1));
        HomeworkBarter x = Check.school("school 60 1 0 0;pupil 5 5 9 9;pupil 0 0 9 9;pupil 0 5 9 9;pupil 5 0 9 9;"
            + "pupil 1 1 9 9 spy;pupil 1 4 9 9 spy;pupil 4 1 9 9 spy;pupil 2 2 9 9;");
        int[] seen = {-1, 1, 1, 1, 0, 0, 0, 1};
        for (int other = 1; other < 8; other++) Check.due("seers(0, " + other + ")", seen[other], x.seers(0, other));
        Check.due("safestPartner(0): a spy whom none is near", 4, x.safestPartner(0));
        Check.due("safestPartner(1): a spy sees only for others", 4, x.safestPartner(1));
        dueAllDetained();
        HomeworkBarter apart = Check.school(APART);
        for (int pupil = 0; pupil < 4; pupil++) {
            Check.due("safestPartner(" + pupil + ") without spies", pupil == 0 ? 1 : 0, apart.safestPartner(pupil));
        }
    }

    /** "NONE if all others are detained": itself does not count, be it detained or not. */
    private static void dueAllDetained() {
        String setup = "school 60 1 0 0;pupil 0 0 9 9;pupil 0 1 9 9;pupil 1 1 9 9 spy;";
        HomeworkBarter x = Check.school(setup, "swap 0 1 0 0;pass 1;");
        Check.due("safestPartner(2), all others are detained", -1, x.safestPartner(2));
        Check.due("safestPartner(0), the spy is not", 2, x.safestPartner(0));
        Check.due("safestPartner(1), the spy is not", 2, x.safestPartner(1));
        x.pass(1);
        Check.due("safestPartner(2), all are free", 0, x.safestPartner(2));
        HomeworkBarter all = Check.school("school 60 1 0 0;pupil 0 0 9 9 spy;pupil 0 1 9 9 spy;pupil 1 1 9 9 spy;",
            "swap 0 1 0 0;swap 1 2 0 0;pass 1;");
        Check.due("detained", 3, all.count(10));
        for (int pupil = 0; pupil < 3; pupil++) {
            Check.due("safestPartner(" + pupil + ") of all who are detained", -1, all.safestPartner(pupil));
        }
    }

    // ---- promise 41

    /** "more than 20 pieces"; "0 if they are now; NONE without such a debt". */
    private static void weeksUntilItDrowns() {
        for (int owed = 1; owed <= 20; owed++) {
            HomeworkBarter x = Check.school(APART, "work 0 sums 20;lend 0 3 sums " + owed + ";");
            Check.due("drownsIn of " + owed, 21 - owed, x.drownsIn(3, 1));
            Check.due("drownsIn in the other subject", -1, x.drownsIn(3, 0));
            Check.due("drownsIn of whom it owes", -1, x.drownsIn(0, 1));
            for (int left = 21 - owed; left > 0; left -= Math.min(left, 10)) {
                Check.due("drownsIn as weeks pass", left, x.drownsIn(3, 1));
                x.pass(Math.min(left, 10));
            }
            Check.due("drownsIn of 21", 0, x.drownsIn(3, 1));
            x.pass(1);
            Check.due("drownsIn of 22", 0, x.drownsIn(3, 1));
        }
        HomeworkBarter x = Check.school(APART, "work 0 sums 20;work 1 sums 20;work 2 sums 20;lend 0 3 sums 6;"
            + "lend 1 3 sums 6;lend 2 3 sums 6;");
        Check.due("drownsIn of 6, 6 and 6", 1, x.drownsIn(3, 1));
        x.lend(0, 3, 0, 1);
        Check.due("drownsIn of 7, 6 and 6", 1, x.drownsIn(3, 1));
        x.lend(0, 3, 0, 1);
        Check.due("drownsIn of 8, 6 and 6", 1, x.drownsIn(3, 1));
        x.pass(1);
        Check.due("drownsIn of 9, 7 and 7", 0, x.drownsIn(3, 1));
        HomeworkBarter now = Check.school(APART, "work 0 sums 20;work 1 sums 20;lend 0 3 sums 20;swap 3 2 9 0;lend 1 3 sums 1;");
        Check.due("drownsIn of 20 and 1", 0, now.drownsIn(3, 1));
        HomeworkBarter paid = Check.school(APART, "work 0 sums 20;lend 0 3 sums 1;work 3 verses 1;pay 3 0 verses 1;");
        Check.due("drownsIn of a debt that is paid", -1, paid.drownsIn(3, 1));
        HomeworkBarter thirty = Fixtures.thirtyDebts();
        Check.due("drownsIn of five debts of 1", 4, thirty.drownsIn(4, 1));
        Check.due("drownsIn of the last debtor", 4, thirty.drownsIn(5, 1));
        HomeworkBarter deep = Check.school(APART, "work 0 sums 20;lend 0 3 sums 20;" + "pass 10;".repeat(9));
        Check.due("drownsIn of 99", 0, deep.drownsIn(3, 1));
    }
}
