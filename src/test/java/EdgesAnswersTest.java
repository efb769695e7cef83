/** The boundary cases of promises 8 to 31, sentence by sentence: what there is, reasons, accounts. */
public final class EdgesAnswersTest {
    private static final String APART = "school 60 20 0 0;pupil 0 0 9 9;pupil 0 5 9 9;pupil 5 0 9 9;pupil 5 5 9 9;";
    private static final int[] NO_PLACES = {-1, -2, Integer.MIN_VALUE, Integer.MIN_VALUE + 12, Integer.MAX_VALUE};

    public static void main(String[] args) {
        theyOnlyAnswer();
        counts();
        countsOfTwelve();
        tallies();
        talliesAddUp();
        paymentsAddUp();
        numbersOfAPupil();
        placesOfPieces();
        piecesOfAMaker();
        debtsAndWhatIsOwed();
        witnesses();
        pupilsOnBenches();
        seers();
        whyDetained();
        whyPunished();
        whyMarks();
        whyDebts();
        whyNone();
        mostOfAll();
        mostOfTwelve();
        ranks();
        mostPieces();
        differentMakers();
        needed();
        pupilsNear();
        debtsOfAPupil();
        whatCanBePaid();
        countersOfReasons();
        nothingIsMissing();
        meanOfMarks();
        shareOfItsOwn();
        Check.end();
    }

    private static HomeworkBarter lived() {
        return Check.school("school 60 2 1 1;pupil 0 0 9 9;pupil 0 1 9 9;pupil 1 1 9 9 spy;pupil 5 5 9 9;",
            "work 0 sums 9;work 1 verses 9;lend 0 1 sums 3;swap 0 1 1 2;pass 1;work 3 verses 4;work 3 sums 4;"
                + "lend 3 2 verses 2;lend 2 3 verses 1;pay 2 3 sums 1;");
    }

    private static String twelve(String numbers, String skills) {
        StringBuilder all = new StringBuilder("school " + numbers + ";");
        for (int i = 0; i < 12; i++) all.append("pupil ").append(i / 6 * 3).append(' ').append(i % 6).append(skills);
        return all.toString();
    }

    /** None of these calls changes anything. */
    private static void theyOnlyAnswer() {
        Check.dueNoChange("the calls of what there is", EdgesAnswersTest::lived, x -> {
            for (int what = 0; what < 10; what++) x.count(what + 3);
            for (int what = 0; what < 10; what++) x.tally(what);
            for (int pupil = 0; pupil < 4; pupil++) {
                x.pupil(pupil, 13);
                x.piece(pupil, 0, 0);
                x.madeBy(pupil, 1, 0);
                x.owes(pupil, 0, 1);
                x.isNear(pupil, 0);
                x.witness(pupil, 0);
            }
            x.debt(1, 3);
            x.bench(5, 5);
        });
        Check.dueNoChange("reasons and accounts", EdgesAnswersTest::lived, x -> {
            for (int pupil = 0; pupil < 4; pupil++) {
                x.seers(pupil, (pupil + 1) % 4);
                x.why(pupil, 0);
                x.why(pupil, 1);
                x.makers(pupil, 0);
                x.needs(pupil, 1);
                x.nearTo(pupil, 0);
                x.debtOf(pupil, 0);
                x.ownShare(pupil);
            }
            for (int what = 0; what < 5; what++) x.most(what);
            x.ranked(0, 0);
            x.mostOf(1);
            x.canPay(0);
            x.canPay(1);
            x.refusals(1);
            x.gap();
            x.meanMarks();
        });
    }

    // ---- promises 8 and 9

    private static void counts() {
        HomeworkBarter x = Check.school("school 60 20 3 9;pupil 0 0 9 9;pupil 0 1 9 9;pupil 1 1 9 9 spy;");
        dueCounts("a new school", x, 3, 0, 60, 20, 3, 9, 0, 0, 0, 0, 0, 1, 0);
        x.work(0, 0, 7);
        x.work(1, 1, 5);
        x.lend(0, 1, 0, 4);
        dueCounts("behind three acts", x, 3, 0, 60, 20, 3, 9, 7, 5, 1, 4, 0, 1, 3);
        x.pass(1);
        dueCounts("behind a week", x, 3, 1, 60, 20, 3, 9, 1, 0, 1, 5, 0, 1, 4);
        for (int acts = 5; acts <= 8; acts++) {
            x.pass(1);
            Check.due("acts that can be undone", Math.min(acts, 6), x.count(12));
        }
        Check.due("sums are all handed in", 0, x.count(6));
    }

    private static void dueCounts(String what, HomeworkBarter x, int... counts) {
        for (int i = 0; i < 13; i++) Check.due(what + ": count(" + i + ")", counts[i], x.count(i));
    }

    private static void countsOfTwelve() {
        HomeworkBarter x = Check.school(twelve("60 1 0 0", " 9 9 spy;"));
        for (int i = 0; i < 12; i++) {
            x.work(i, 0, 20);
            x.work(i, 1, 20);
        }
        Check.due("pupils", 12, x.count(0));
        Check.due("sums", 240, x.count(6));
        Check.due("verses", 240, x.count(7));
        Check.due("spies", 12, x.count(11));
        for (int i = 0; i < 12; i++) x.swap(i, (i + 1) % 12, 0, 0);
        x.pass(1);
        Check.due("detained", 12, x.count(10));
        Check.due("spies who are detained", 12, x.count(11));
        Check.due("sums", 0, x.count(6));
        Check.due("pieces lost", 480, x.tally(6));
        Check.due("punishments", 12, x.tally(8));
        HomeworkBarter thirty = Fixtures.thirtyDebts();
        Check.due("debts", 30, thirty.count(8));
        Check.due("pieces owed", 30, thirty.count(9));
        thirty.pass(3);
        Check.due("pieces owed", 120, thirty.count(9));
        Check.due("pieces by which they grew", 90, thirty.tally(9));
    }

    /** Each act adds to its own tally, and to no other. */
    private static void tallies() {
        HomeworkBarter x = Check.school("school 60 20 1 2;pupil 0 0 9 9;pupil 0 1 9 9;pupil 1 1 9 9 spy;pupil 1 0 9 9 spy;");
        x.work(0, 0, 5);
        dueTallies("work of sums", x, 5, 0, 0, 0, 0, 0, 0, 0, 0, 0);
        x.work(1, 1, 4);
        dueTallies("work of verses", x, 5, 4, 0, 0, 0, 0, 0, 0, 0, 0);
        x.swap(0, 1, 1, 2);
        dueTallies("swap", x, 5, 4, 1, 0, 0, 0, 0, 2, 0, 0);
        x.swap(0, 1, 0, 0);
        dueTallies("swap of nothing", x, 5, 4, 2, 0, 0, 0, 0, 4, 0, 0);
        x.lend(0, 1, 0, 3);
        dueTallies("lend", x, 5, 4, 2, 1, 0, 0, 0, 6, 0, 0);
        x.payBack(1, 0, 1, 2);
        dueTallies("payBack", x, 5, 4, 2, 1, 2, 0, 0, 8, 0, 0);
        x.move(2, 5, 5);
        dueTallies("move", x, 5, 4, 2, 1, 2, 0, 0, 8, 0, 0);
        x.confess(0);
        dueTallies("confess", x, 5, 4, 2, 1, 2, 0, 0, 8, 0, 0);
        x.pass(1);
        // 0 has a sum and four verses, 1 four sums: handed in are 1 and 2, and 1.
        dueTallies("pass", x, 5, 4, 2, 1, 2, 4, 0, 8, 0, 1);
        x.undo();
        dueTallies("undo", x, 5, 4, 2, 1, 2, 0, 0, 8, 0, 0);
        Check.load(x, APART);
        dueTallies("load", x, 0, 0, 0, 0, 0, 0, 0, 0, 0, 0);
    }

    private static void dueTallies(String what, HomeworkBarter x, int... tallies) {
        for (int i = 0; i < 10; i++) Check.due(what + ": tally(" + i + ")", tallies[i], x.tally(i));
    }

    /** Tallies of several acts, and of several weeks. */
    private static void talliesAddUp() {
        HomeworkBarter x = Check.school("school 60 1 1 0;pupil 0 0 9 9;pupil 0 1 9 9;pupil 1 1 9 9 spy;pupil 5 5 9 9;"
            + "pupil 5 0 9 9;");
        for (int round = 1; round <= 5; round++) {
            x.work(0, 0, 3);
            x.work(3, 0, 1);
            x.work(3, 1, 2);
            x.lend(3, 4, 1, 1);
            x.swap(0, 1, 1, 0);
            // A sum each of 0, 1 and 3 is handed in; 0 and 1 are punished, and 0 loses a sum.
            x.pass(1);
            dueTallies("round " + round, x, 4 * round, 2 * round, round, round, 0, 3 * round, round, round, 2 * round,
                2 * round - 1);
            x.pass(1);
            dueTallies("a week behind round " + round, x, 4 * round, 2 * round, round, round, 0, 3 * round, round, round,
                2 * round, 2 * round);
        }
    }

    /** "pieces that were paid back", of several debts and payments. */
    private static void paymentsAddUp() {
        HomeworkBarter x = Check.school(APART, "work 0 sums 9;work 1 verses 9;work 1 sums 5;lend 0 1 sums 6;lend 1 0 verses 2;");
        int paid = 0;
        for (int pieces = 1; pieces <= 3; pieces++) {
            Check.due("payBack of " + pieces, 6 - pieces - paid, x.payBack(1, 0, 1, pieces));
            paid += pieces;
            Check.due("pieces that were paid back", paid, x.tally(4));
        }
        Check.due("payBack of one of two sums", 1, x.payBack(0, 1, 0, 1));
        Check.due("pieces that were paid back", 7, x.tally(4));
        x.undo();
        Check.due("pieces that were paid back, behind undo", 6, x.tally(4));
    }

    // ---- promises 10 to 17

    private static void numbersOfAPupil() {
        HomeworkBarter x = Check.school("school 59 20 1 1;pupil 5 4 1 9 spy;pupil 4 5 9 1;pupil 0 0 9 9;pupil 1 1 9 8;",
            "work 0 verses 3;work 1 sums 7;work 2 sums 9;work 2 verses 2;lend 2 1 sums 2;lend 2 3 sums 3;lend 3 1 sums 1;"
                + "swap 1 0 4 1;lend 1 2 sums 1;");
        int[][] due = {
            {5, 4, 1, 9, 1, 56, 0, 0, 0, 4, 2, 0, 0, 0},
            {4, 5, 9, 1, 0, 52, 3, 0, 0, 5, 1, 3, 1, 1},
            {0, 0, 9, 9, 0, 48, 2, 0, 0, 5, 2, 1, 5, 1},
            {1, 1, 9, 8, 0, 59, 1, 0, 0, 2, 0, 3, 1, 1}};
        for (int pupil = 0; pupil < 4; pupil++) {
            for (int what = 0; what < 14; what++) {
                Check.due("pupil(" + pupil + ", " + what + ")", due[pupil][what], x.pupil(pupil, what));
            }
        }
    }

    /** "0 for the eldest piece"; "NONE if there are not so many". */
    private static void placesOfPieces() {
        HomeworkBarter x = Check.school(APART, "work 0 sums 20;work 1 verses 1;swap 0 1 0 1;");
        for (int place = 0; place < 20; place++) Check.due("sum " + place + " of twenty", 0, x.piece(0, 0, place));
        Check.due("sum 20 of twenty", -1, x.piece(0, 0, 20));
        Check.due("verse 0 of one", 1, x.piece(0, 1, 0));
        Check.due("verse 1 of one", -1, x.piece(0, 1, 1));
        Check.due("verse 0 of none", -1, x.piece(1, 1, 0));
        for (int place : NO_PLACES) Check.due("sum " + place, -1, x.piece(0, 0, place));
        x.lend(0, 2, 0, 19);
        Check.due("the last sum that stays", 0, x.piece(0, 0, 0));
        Check.due("behind it", -1, x.piece(0, 0, 1));
    }

    private static void piecesOfAMaker() {
        HomeworkBarter x = Check.school(APART, "work 0 sums 20;work 1 sums 3;work 1 verses 2;lend 0 2 sums 20;pass 1;"
            + "lend 2 3 sums 19;lend 1 3 sums 1;");
        Check.due("19 of 0", 19, x.madeBy(3, 0, 0));
        Check.due("1 of 1", 1, x.madeBy(3, 0, 1));
        Check.due("none of its own", 0, x.madeBy(3, 0, 3));
        Check.due("none in the other satchel", 0, x.madeBy(3, 1, 0));
        Check.due("none in an empty one", 0, x.madeBy(0, 0, 0));
        Check.due("its own ones", 2, x.madeBy(1, 0, 1));
        x.work(0, 1, 20);
        Check.due("a full satchel of its own ones", 20, x.madeBy(0, 1, 0));
    }

    /** "0 for none": who owes what to whom, among thirty debts. */
    private static void debtsAndWhatIsOwed() {
        HomeworkBarter x = Fixtures.thirtyDebts();
        int debt = 0;
        for (int lender = 0; lender < 6; lender++) {
            for (int other = 0; other < 6; other++) {
                Check.due("owes(" + other + ", " + lender + ", 1)", other == lender ? 0 : 1, x.owes(other, lender, 1));
                if (other == lender) continue;
                Check.due("who owes debt " + debt, other, x.debt(debt, 0));
                Check.due("to whom debt " + debt, lender, x.debt(debt, 1));
                Check.due("SUBJECT of debt " + debt, 1, x.debt(debt, 2));
                Check.due("pieces of debt " + debt, 1, x.debt(debt, 3));
                debt++;
            }
            Check.due("what " + lender + " owes", 5, x.pupil(lender, 11));
            Check.due("what is owed to " + lender, 5, x.pupil(lender, 12));
        }
        Check.due("sums", 0, x.owes(0, 1, 0));
        Check.due("itself", 0, x.owes(3, 3, 1));
        Check.due("one without debts", 0, x.owes(6, 0, 1) + x.owes(0, 6, 1));
        x.lend(5, 4, 0, 1);
        Check.due("the last debt grows", 2, x.debt(29, 3));
        Check.due("what 4 owes", 6, x.pupil(4, 11));
    }

    /** "0 for the lowest WITNESS against it"; "NONE if there are not so many". */
    private static void witnesses() {
        HomeworkBarter x = Check.school("school 10 20 0 0;pupil 1 1 1 1;pupil 1 2 1 1;pupil 0 0 1 1 spy;pupil 0 1 1 1 spy;"
            + "pupil 0 2 1 1 spy;pupil 0 3 1 1 spy;pupil 1 0 1 1 spy;pupil 1 3 1 1 spy;pupil 2 0 1 1 spy;pupil 2 1 1 1 spy;"
            + "pupil 2 2 1 1 spy;pupil 2 3 1 1 spy;");
        Check.due("witness(0, 0) of none", -1, x.witness(0, 0));
        x.move(2, 5, 5);
        Check.due("swap", 9, x.swap(0, 1, 0, 0));
        for (int place = 0; place < 9; place++) Check.due("witness(0, " + place + ")", place + 3, x.witness(0, place));
        Check.due("witness(0, 9)", -1, x.witness(0, 9));
        x.move(2, 0, 0);
        Check.due("swap", 10, x.swap(0, 1, 0, 0));
        for (int place = 0; place < 10; place++) Check.due("witness(1, " + place + ")", place + 2, x.witness(1, place));
        Check.due("witness(1, 10)", -1, x.witness(1, 10));
        for (int place : NO_PLACES) Check.due("witness(1, " + place + ")", -1, x.witness(1, place));
        Check.due("WITNESSES", 10, x.pupil(1, 13));
        Check.due("PROOF", 19, x.pupil(1, 6));
        Check.due("swap of two of the spies", 4, x.swap(2, 11, 0, 0));
        int[] spies = {3, 6, 7, 10, -1};
        for (int place = 0; place < 5; place++) Check.due("witness(11, " + place + ")", spies[place], x.witness(11, place));
    }

    private static void pupilsOnBenches() {
        HomeworkBarter x = Check.school("school 10 20 0 0;pupil 0 0 1 1;pupil 5 5 1 1;pupil 0 5 1 1;pupil 5 0 1 1;"
            + "pupil 2 3 1 1;");
        int[] on = {0, 35, 5, 30, 15};
        for (int bench = 0; bench < 36; bench++) {
            int due = -1;
            for (int pupil = 0; pupil < 5; pupil++) due = on[pupil] == bench ? pupil : due;
            Check.due("bench " + bench, due, x.bench(bench / 6, bench % 6));
        }
        x.move(4, 3, 2);
        Check.due("the bench that was left", -1, x.bench(2, 3));
        Check.due("the new one", 4, x.bench(3, 2));
        x.undo();
        Check.due("the old one again", 4, x.bench(2, 3));
    }

    // ---- promises 18 and 19

    /** seers tells what a barter would tell, also of two who could not barter, and changes nothing. */
    private static void seers() {
        HomeworkBarter x = Check.school("school 10 1 0 0;pupil 0 0 1 1;pupil 0 1 1 1;pupil 1 1 1 1 spy;pupil 5 5 1 1;"
            + "pupil 4 4 1 1 spy;");
        Check.due("seers(0, 3)", 2, x.seers(0, 3));
        Check.due("seers(3, 0)", 2, x.seers(3, 0));
        Check.due("seers(2, 3): the other spy", 1, x.seers(2, 3));
        Check.due("seers(2, 4): both spies", 0, x.seers(2, 4));
        Check.due("seers(0, 1)", 1, x.seers(0, 1));
        x.swap(0, 4, 0, 0);
        x.pass(1);
        Check.due("DETENTION of the spy 4", 1, x.pupil(4, 8));
        Check.due("seers(0, 3): one spy is detained", 1, x.seers(0, 3));
        Check.due("seers(3, 1)", 1, x.seers(3, 1));
    }

    private static void dueWhy(String what, HomeworkBarter x, int pupil, int cause) {
        Check.due("why(" + pupil + ", 0), " + what, cause / 100, x.why(pupil, 0));
        Check.due("why(" + pupil + ", 1), " + what, cause, x.why(pupil, 1));
    }

    /** "1 it is detained": ahead of all others; "100 plus DETENTION". */
    private static void whyDetained() {
        HomeworkBarter x = Check.school("school 60 1 9 9;pupil 0 0 9 9;pupil 0 1 9 9;pupil 1 1 9 9 spy;pupil 5 5 9 9;",
            "work 3 sums 9;lend 3 0 sums 9;" + "swap 0 1 0 0;".repeat(23));
        x.swap(0, 1, 0, 0);
        x.swap(0, 1, 0, 0);
        dueWhy("26 times seen, and 3 by its sums", x, 0, 229);
        x.pass(1);
        for (int left = 9; left > 0; left--) {
            dueWhy("it is detained, lacks pieces, and owes some", x, 0, 100 + left);
            x.pass(1);
        }
        dueWhy("it lacks all pieces", x, 0, 318);
    }

    /** "2 it would be punished, if the week ended now"; "200 plus what PROOF would be as it is looked at". */
    private static void whyPunished() {
        String setup = "school 60 3 6 2;pupil 0 0 9 9;pupil 0 1 9 9;pupil 1 1 9 9 spy;pupil 5 5 9 9;";
        HomeworkBarter x = Check.school(setup, "work 0 sums 6;work 0 verses 2;swap 0 1 0 0;swap 0 1 0 0;");
        dueWhy("PROOF 2 at LIMIT 3", x, 0, 552);
        x.swap(0, 1, 0, 0);
        dueWhy("PROOF 3 at LIMIT 3", x, 0, 203);
        x.swap(0, 1, 0, 0);
        dueWhy("PROOF 4 at LIMIT 3", x, 0, 204);
        dueWhy("ahead of what it lacks", x, 1, 204);
        dueWhy("others would be punished: the spy lacks all", x, 2, 308);
        x.work(3, 0, 6);
        x.work(3, 1, 2);
        dueWhy("others would be punished", x, 3, 552);
        HomeworkBarter y = Check.school(setup, "work 3 sums 9;work 3 verses 9;lend 3 1 sums 5;lend 3 1 verses 2;swap 0 1 0 0;");
        // The spy is near 1, and saw both loans and the swap: PROOF 3, and 1 + 1 by what it hands in.
        dueWhy("by what was seen and what is handed in", y, 1, 205);
        y.confess(1);
        dueWhy("PROOF 1 and 2 by what it hands in", y, 1, 203);
        y.confess(1);
        dueWhy("PROOF 0 and 2: it lacks a sum", y, 1, 301);
        y.lend(3, 1, 0, 1);
        dueWhy("PROOF 1 and 3 by six sums and two verses", y, 1, 204);
    }

    /** "3 it would get MARKS then"; "300 plus these MARKS". */
    private static void whyMarks() {
        String setup = "school 60 20 2 3;pupil 0 0 9 9;pupil 0 5 9 9;";
        int[][] has = {{0, 0}, {1, 0}, {2, 0}, {3, 0}, {2, 2}, {0, 3}, {1, 3}, {1, 9}, {9, 2}, {1, 2}};
        int[] marks = {5, 4, 3, 3, 1, 2, 1, 1, 1, 2};
        for (int i = 0; i < has.length; i++) {
            HomeworkBarter x = Check.school(setup);
            if (has[i][0] > 0) x.work(0, 0, has[i][0]);
            if (has[i][1] > 0) x.work(0, 1, has[i][1]);
            dueWhy(has[i][0] + " sums and " + has[i][1] + " verses", x, 0, 300 + marks[i]);
        }
        dueWhy("2 sums and 3 verses", Check.school(setup, "work 0 sums 2;work 0 verses 3;"), 0, 555);
        dueWhy("DUE 0", Check.school(APART), 0, 560);
        dueWhy("DUE 9 and 9", Check.school("school 60 20 9 9;pupil 0 0 9 9;pupil 0 5 9 9;"), 1, 318);
        dueWhy("ahead of what it owes", Check.school(setup, "work 0 sums 9;lend 0 1 sums 1;"), 1, 304);
        HomeworkBarter marked = Check.school(setup, "pass 2;work 0 sums 2;work 0 verses 3;work 1 sums 1;");
        Check.due("MARKS of two weeks", 10, marked.pupil(0, 7));
        dueWhy("it has MARKS, and would get none", marked, 0, 555);
        dueWhy("it has MARKS, and would get some", marked, 1, 304);
        HomeworkBarter seen = Check.school("school 60 20 1 0;pupil 0 0 9 9;pupil 0 1 9 9;pupil 1 1 9 9 spy;",
            "swap 0 1 0 0;swap 0 1 0 0;");
        dueWhy("it has more PROOF than it would get MARKS", seen, 0, 301);
    }

    /** "4 it owes pieces that it has not"; "the lowest debt of it that is of more pieces than its satchel has". */
    private static void whyDebts() {
        String ready = "work 0 sums 9;work 1 sums 9;work 0 verses 9;work 1 verses 9;lend 1 3 sums 1;";
        HomeworkBarter x = Check.school(APART, ready + "lend 0 2 sums 3;");
        dueWhy("it owes 3 and has none: debt 1", x, 2, 401);
        x.work(2, 1, 2);
        dueWhy("it owes 3 and has 2", x, 2, 401);
        x.work(2, 1, 1);
        dueWhy("it owes 3 and has 3", x, 2, 557);
        x.pass(1);
        dueWhy("it owes 4 and has 3", x, 2, 401);
        dueWhy("to whom it is owed", x, 0, 560);
        dueWhy("debt 0: it owes 1 and has none", x, 3, 400);
        x.work(3, 1, 2);
        dueWhy("debt 0: it owes 2 and has 2", x, 3, 558);
        HomeworkBarter y = Check.school(APART, ready + "lend 0 2 sums 2;lend 1 2 sums 3;lend 0 2 verses 1;work 2 verses 1;");
        dueWhy("2 and 3 verses with 2, and a sum with 5", y, 2, 402);
        y.work(2, 1, 1);
        dueWhy("2 and 3 verses with 3", y, 2, 558);
        HomeworkBarter z = Check.school(APART, ready + "lend 0 2 verses 4;work 2 verses 9;");
        dueWhy("4 sums with none, though it has verses", z, 2, 401);
        z.work(2, 0, 4);
        dueWhy("4 sums with 4", z, 2, 547);
        HomeworkBarter due = Check.school("school 60 20 0 2;pupil 0 0 9 9;pupil 0 5 9 9;", "work 0 sums 9;lend 0 1 sums 3;"
            + "work 1 verses 3;");
        dueWhy("it owes 3 verses and has 3, of which 2 are due", due, 1, 557);
        due.lend(0, 1, 0, 1);
        dueWhy("it owes 4 verses and has 3", due, 1, 400);
        HomeworkBarter thirty = Fixtures.thirtyDebts();
        dueWhy("it owes one verse each and has seven", thirty, 4, 546);
        thirty.lend(4, 6, 1, 7);
        Check.due("a 31st debt", 1, thirty.refusals(9));
        thirty.swap(6, 4, 0, 7);
        dueWhy("it has none: the lowest of its debts", thirty, 4, 403);
        dueWhy("the last debt of all is another's", thirty, 5, 546);
    }

    /** "5 none of that"; "500 plus STRENGTH". */
    private static void whyNone() {
        HomeworkBarter x = Check.school("school 60 20 0 0;pupil 0 0 9 9;pupil 0 5 1 1;", "work 0 sums 20;work 0 verses 20;");
        dueWhy("STRENGTH 20", x, 0, 520);
        dueWhy("STRENGTH 60", x, 1, 560);
        HomeworkBarter y = Check.school("school 10 20 0 0;pupil 0 0 9 9;pupil 0 5 1 1;", "work 0 sums 10;work 1 sums 1;");
        dueWhy("STRENGTH 0", y, 0, 500);
        dueWhy("STRENGTH 1", y, 1, 501);
    }

    // ---- promises 20 to 26

    /** "of several the lowest". */
    private static void mostOfAll() {
        for (int what = 0; what < 5; what++) {
            Check.due("most(" + what + ") of all alike", 0, Check.school(APART).most(what));
        }
        String spies = "school 60 20 0 0;pupil 0 0 9 9;pupil 0 5 9 9;pupil 5 0 9 9;pupil 5 5 9 9;pupil 4 0 9 9 spy;";
        HomeworkBarter x = Check.school(spies, "work 1 sums 9;work 2 sums 9;work 3 sums 9;");
        x.swap(2, 3, 0, 0);
        Check.due("most(1): 2 and 3 alike", 2, x.most(1));
        x.confess(2);
        Check.due("most(1): 3", 3, x.most(1));
        Check.due("most(0): 2", 2, x.most(0));
        x.confess(3);
        Check.due("most(0): 2 and 3 alike", 2, x.most(0));
        Check.due("most(4): 1, 2 and 3 alike", 1, x.most(4));
        x.work(3, 1, 1);
        Check.due("most(4): 3", 3, x.most(4));
        HomeworkBarter y = Check.school(APART, "work 1 sums 9;work 2 sums 9;lend 1 3 sums 2;lend 2 0 sums 2;");
        Check.due("most(2): 0 and 3 alike", 0, y.most(2));
        Check.due("most(3): 1 and 2 alike", 1, y.most(3));
        y.lend(2, 3, 0, 1);
        Check.due("most(2): 3, by two debts", 3, y.most(2));
        Check.due("most(3): 2, by two debts", 2, y.most(3));
    }

    private static void mostOfTwelve() {
        HomeworkBarter x = Check.school(twelve("60 20 1 0", " 9 9;"));
        for (int i = 0; i < 12; i++) x.work(i, 0, 1);
        x.pass(1);
        x.work(11, 0, 3);
        Check.due("most(4): the last one", 11, x.most(4));
        Check.due("mostOf(0): the last one", 11, x.mostOf(0));
        Check.due("mostOf(1): none has any", 0, x.mostOf(1));
        x.lend(11, 10, 0, 1);
        Check.due("most(2)", 10, x.most(2));
        Check.due("most(3): the last one", 11, x.most(3));
        x.pass(1);
        Check.due("most(0): 10 and 11 have handed in", 0, x.most(0));
        Check.dueExactly("meanMarks of twelve", 10.0 / 12.0, x.meanMarks());
    }

    /** "0 for the pupil with the greatest SKILL in it, of several the lowest first"; "NONE if there are not so many". */
    private static void ranks() {
        HomeworkBarter x = Check.school("school 60 20 0 0;pupil 0 0 1 9;pupil 0 1 9 5;pupil 0 2 5 9;pupil 0 3 9 1;"
            + "pupil 0 4 1 9;");
        int[][] due = {{1, 3, 2, 0, 4}, {0, 2, 4, 1, 3}};
        for (int subject = 0; subject < 2; subject++) {
            for (int place = 0; place < 5; place++) {
                Check.due("ranked(" + subject + ", " + place + ")", due[subject][place], x.ranked(subject, place));
            }
            Check.due("ranked(" + subject + ", 5)", -1, x.ranked(subject, 5));
            for (int place : NO_PLACES) Check.due("ranked(" + subject + ", " + place + ")", -1, x.ranked(subject, place));
        }
        HomeworkBarter y = Check.school(twelve("60 20 0 0", " 5 5;"));
        for (int place = 0; place < 12; place++) Check.due("ranked(0, " + place + ") of alike", place, y.ranked(0, place));
        Check.due("ranked(0, 12)", -1, y.ranked(0, 12));
    }

    private static void mostPieces() {
        for (int subject = 0; subject < 2; subject++) {
            HomeworkBarter one = Check.school(APART);
            one.work(0, 1 - subject, 20);
            Check.due("mostOf(" + subject + ") of none", 0, one.mostOf(subject));
            one.work(1, subject, 3);
            one.work(3, subject, 2);
            Check.due("mostOf(" + subject + ") of 3 and 2", 1, one.mostOf(subject));
            one.work(3, subject, 1);
            Check.due("mostOf(" + subject + ") of 3 and 3", 1, one.mostOf(subject));
            one.work(2, subject, 4);
            Check.due("mostOf(" + subject + ") of 3, 4 and 3", 2, one.mostOf(subject));
            one.work(0, subject, 4);
            Check.due("mostOf(" + subject + ") of 4, 3, 4 and 3", 0, one.mostOf(subject));
        }
        HomeworkBarter x = Check.school(APART);
        Check.due("mostOf(0) of none", 0, x.mostOf(0));
        x.work(3, 0, 2);
        x.work(2, 1, 3);
        Check.due("mostOf(0): the last one", 3, x.mostOf(0));
        Check.due("mostOf(1)", 2, x.mostOf(1));
        x.work(1, 0, 2);
        Check.due("mostOf(0): 1 and 3 alike", 1, x.mostOf(0));
        x.work(3, 0, 18);
        Check.due("mostOf(0): a full satchel", 3, x.mostOf(0));
    }

    private static void differentMakers() {
        HomeworkBarter x = Check.school(twelve("60 20 0 0", " 9 9;"));
        Check.due("makers of none", 0, x.makers(0, 0));
        for (int i = 0; i < 12; i++) {
            x.work(i, 0, 2);
            if (i > 0) x.lend(i, 0, 0, 1);
            Check.due("makers of " + (i + 1), i + 1, x.makers(0, 0));
        }
        Check.due("pieces", 13, x.pupil(0, 9));
        x.swap(1, 0, 1, 0);
        Check.due("one of them twice", 12, x.makers(0, 0));
        Check.due("makers of the other subject", 0, x.makers(0, 1));
        Check.due("makers of one who gave all", 0, x.makers(1, 0));
    }

    /** "0 if it has enough". */
    private static void needed() {
        HomeworkBarter x = Check.school("school 60 20 9 1;pupil 0 0 9 9;pupil 0 5 9 9;");
        for (int sums = 0; sums <= 11; sums++) {
            Check.due("needs with " + sums + " sums", Math.max(9 - sums, 0), x.needs(0, 0));
            Check.due("needs of verses", 1, x.needs(0, 1));
            x.work(0, 0, 1);
        }
        x.work(0, 1, 1);
        Check.due("needs with a verse", 0, x.needs(0, 1));
        x.work(0, 1, 1);
        Check.due("needs with two verses", 0, x.needs(0, 1));
        Check.due("needs of DUE 0", 0, Check.school(APART).needs(0, 0));
    }

    /** "0 for the lowest other pupil who is NEAR it": eight of them at most. */
    private static void pupilsNear() {
        HomeworkBarter x = Check.school("school 10 20 0 0;pupil 0 0 1 1;pupil 0 1 1 1;pupil 0 2 1 1;pupil 1 0 1 1;"
            + "pupil 1 1 1 1;pupil 1 2 1 1;pupil 2 0 1 1;pupil 2 1 1 1;pupil 2 2 1 1;pupil 0 3 1 1;pupil 4 4 1 1;");
        int[] others = {0, 1, 2, 3, 5, 6, 7, 8};
        for (int place = 0; place < 8; place++) Check.due("nearTo(4, " + place + ")", others[place], x.nearTo(4, place));
        Check.due("nearTo(4, 8)", -1, x.nearTo(4, 8));
        for (int place : NO_PLACES) Check.due("nearTo(4, " + place + ")", -1, x.nearTo(4, place));
        Check.due("nearTo(10, 0) of none", -1, x.nearTo(10, 0));
        Check.due("nearTo(9, 1)", 5, x.nearTo(9, 1));
        Check.due("nearTo(9, 2)", -1, x.nearTo(9, 2));
        Check.due("move(10, 1, 3)", 4, x.move(10, 1, 3));
    }

    /** "0 for the lowest debt of which it owes the pieces"; "NONE if there are not so many". */
    private static void debtsOfAPupil() {
        HomeworkBarter x = Fixtures.thirtyDebts();
        for (int pupil = 0; pupil < 6; pupil++) {
            int place = 0;
            for (int debt = 0; debt < 30; debt++) {
                if (x.debt(debt, 0) != pupil) continue;
                Check.due("debtOf(" + pupil + ", " + place + ")", debt, x.debtOf(pupil, place));
                place++;
            }
            Check.due("debtOf(" + pupil + ", 5)", -1, x.debtOf(pupil, 5));
        }
        Check.due("debtOf(6, 0) of none", -1, x.debtOf(6, 0));
        for (int place : new int[] {-1, -30, 30, Integer.MIN_VALUE, Integer.MIN_VALUE + 29, Integer.MAX_VALUE}) {
            Check.due("debtOf(4, " + place + ")", -1, x.debtOf(4, place));
        }
    }

    // ---- promises 27 to 31

    /** "whether payBack() of all its pieces would be done now (never if these are more than 20)". */
    private static void whatCanBePaid() {
        String lent = "work 0 sums 20;lend 0 1 sums 10;pass 9;work 1 verses 20;";
        HomeworkBarter x = Check.school(APART, lent);
        Check.due("19 pieces with 20", true, x.canPay(0));
        x.pass(1);
        Check.due("20 pieces with 20", true, x.canPay(0));
        x.swap(2, 1, 0, 1);
        Check.due("20 pieces with 19", false, x.canPay(0));
        x.undo();
        x.work(0, 1, 1);
        Check.due("20 pieces into a satchel with 1", false, x.canPay(0));
        x.undo();
        x.pass(1);
        Check.due("21 pieces with 20", false, x.canPay(0));
        Check.due("payBack of 20 of them", 1, x.payBack(1, 0, 1, 20));
        Check.due("1 piece with none", false, x.canPay(0));
        x.work(1, 1, 1);
        Check.due("1 piece with 1, into a full satchel", false, x.canPay(0));
        x.swap(2, 0, 0, 1);
        Check.due("1 piece with 1, into a satchel with 19", true, x.canPay(0));
        x.pass(10);
        Check.due("11 pieces with 1", false, x.canPay(0));
        for (int i = 0; i < 9; i++) x.pass(10);
        Check.due("99 pieces", false, x.canPay(0));
        dueCanPayOfTheDetained();
        HomeworkBarter y = Check.school(APART, "work 0 sums 9;work 1 sums 9;work 2 verses 3;lend 0 1 sums 3;lend 1 2 sums 3;");
        Check.due("debt 0, whose debtor has none", false, y.canPay(0));
        Check.due("debt 1, whose debtor has three", true, y.canPay(1));
    }

    private static void dueCanPayOfTheDetained() {
        String setup = "school 60 1 0 0;pupil 0 0 9 9;pupil 0 1 9 9;pupil 3 3 9 9 spy;pupil 5 5 9 9;pupil 5 0 9 9;";
        HomeworkBarter x = Check.school(setup, "work 3 sums 9;work 4 verses 9;work 0 sums 2;work 0 verses 2;lend 3 0 sums 1;"
            + "lend 0 4 sums 1;lend 3 4 sums 1;move 2 1 1;swap 0 1 0 0;pass 1;work 0 verses 9;");
        Check.due("the one who owes is detained", false, x.canPay(0));
        Check.due("the one to whom it is owed is detained", false, x.canPay(1));
        Check.due("none of both is detained", true, x.canPay(2));
        x.pass(1);
        for (int debt = 0; debt < 3; debt++) Check.due("all are free", true, x.canPay(debt));
    }

    /** "how often an act was refused for this reason (since the object was created)". */
    private static void countersOfReasons() {
        HomeworkBarter x = Check.school("school 60 1 0 0;pupil 0 0 9 9;pupil 0 1 9 9;pupil 1 1 1 1 spy;pupil 5 5 9 9;",
            "swap 0 1 0 0;pass 1;");
        x.swap(0, 3, 0, 0);
        for (int i = 0; i < 2; i++) x.work(2, 0, 20);
        x.work(3, 1, 20);
        for (int i = 0; i < 3; i++) x.work(3, 1, 1);
        for (int i = 0; i < 4; i++) x.lend(3, 2, 0, 1);
        for (int i = 0; i < 5; i++) x.swap(3, 3, 0, 0);
        for (int i = 0; i < 6; i++) x.payBack(3, 2, 0, 1);
        for (int i = 0; i < 7; i++) x.move(3, 5, 5);
        for (int i = 0; i < 8; i++) x.confess(3);
        Check.due("refusals", "1 2 3 4 5 6 7 8 0 0 ", Check.refusals(x));
        x.undo();
        x.save(0);
        x.restore(0);
        Check.due("refusals behind undo and restore", "1 2 3 4 5 6 7 8 0 0 ", Check.refusals(x));
        for (int i = 0; i < 9; i++) {
            x.whySwap(3, 3, 0, 0);
            x.whyLend(3, 3, 0, 1);
        }
        Check.play(x, "confess 3;confess 3;");
        Check.load(x, APART);
        Check.due("refusals behind play and load", "1 2 3 4 5 6 7 9 0 0 ", Check.refusals(x));
        HomeworkBarter nine = Fixtures.thirtyDebts();
        for (int i = 0; i < 9; i++) nine.lend(6, i % 6, 0, 1);
        Check.due("refusals for 9", "0 0 0 0 0 0 0 0 9 0 ", Check.refusals(nine));
        HomeworkBarter ten = new HomeworkBarter();
        for (int i = 0; i < 109; i++) ten.pass(10);
        Check.due("refusals for 10", "0 0 0 0 0 0 0 0 0 10 ", Check.refusals(ten));
    }

    /** gap is 0, whatever was done. */
    private static void nothingIsMissing() {
        HomeworkBarter x = Check.school(twelve("60 3 2 1", " 9 9 spy;"));
        for (int round = 0; round < 8; round++) {
            for (int i = 0; i < 12; i++) {
                x.work(i, round % 2, 5);
                x.lend(i, (i + 1) % 12, round % 2, 2);
                x.swap(i, (i + 5) % 12, 1, 1);
            }
            Check.due("gap, round " + round, 0, x.gap());
            x.pass(1);
            Check.due("gap a week later, round " + round, 0, x.gap());
        }
        HomeworkBarter full = Check.school(twelve("60 20 0 0", " 9 9;"));
        for (int i = 0; i < 12; i++) {
            full.work(i, 0, 20);
            full.work(i, 1, 20);
        }
        Check.due("gap of full satchels", 0, full.gap());
        Check.due("gap of thirty debts", 0, Fixtures.thirtyDebts().gap());
        Check.due("gap of a new object", 0, new HomeworkBarter().gap());
        HomeworkBarter paid = Check.school(APART, "work 0 sums 5;work 1 verses 5;lend 0 1 sums 3;pay 1 0 verses 2;pass 3;");
        Check.due("gap of what was paid and what grew", 0, paid.gap());
    }

    /** "MARKS of all pupils, together, divided by how many these are, both converted to double". */
    private static void meanOfMarks() {
        HomeworkBarter x = Check.school("school 60 20 1 0;pupil 0 0 9 9;pupil 0 1 9 9;pupil 0 2 9 9;");
        Check.dueExactly("meanMarks of 0", 0.0, x.meanMarks());
        x.work(0, 0, 1);
        x.pass(1);
        Check.dueExactly("meanMarks of 2 by 3", 2.0 / 3.0, x.meanMarks());
        x.pass(1);
        Check.dueExactly("meanMarks of 5 by 3", 5.0 / 3.0, x.meanMarks());
        HomeworkBarter y = Check.school("school 60 20 1 0;pupil 0 0 9 9;pupil 0 1 9 9;", "work 1 sums 1;pass 1;");
        Check.dueExactly("meanMarks of 1 by 2", 0.5, y.meanMarks());
        HomeworkBarter last = Check.school(twelve("60 20 1 0", " 9 9;"));
        for (int i = 0; i < 11; i++) last.work(i, 0, 1);
        last.pass(1);
        Check.dueExactly("meanMarks of 1, of the last one, by 12", 1.0 / 12.0, last.meanMarks());
        HomeworkBarter most = Check.school("school 60 20 9 9;pupil 0 0 9 9;pupil 0 1 9 9;");
        for (int i = 0; i < 99; i++) most.pass(10);
        most.pass(9);
        Check.dueExactly("meanMarks of all weeks", 17982.0, most.meanMarks());
    }

    /** "divided by all pieces in them, both converted to float; 0.0f without any". */
    private static void shareOfItsOwn() {
        HomeworkBarter x = Check.school(APART);
        Check.dueExactly("ownShare without any", 0.0f, x.ownShare(0));
        x.work(0, 0, 1);
        Check.dueExactly("ownShare of one, its own", 1.0f, x.ownShare(0));
        x.lend(0, 1, 0, 1);
        Check.dueExactly("ownShare of one, another's", 0.0f, x.ownShare(1));
        Check.dueExactly("ownShare of one who gave all", 0.0f, x.ownShare(0));
        x.work(1, 1, 1);
        Check.dueExactly("ownShare of one and one", 0.5f, x.ownShare(1));
        x.work(1, 0, 1);
        Check.dueExactly("ownShare of two by three", 2.0f / 3.0f, x.ownShare(1));
        x.work(1, 1, 19);
        x.work(1, 0, 18);
        Check.dueExactly("ownShare of 39 by 40", 39.0f / 40.0f, x.ownShare(1));
        x.work(2, 1, 1);
        Check.dueExactly("ownShare of a verse alone", 1.0f, x.ownShare(2));
    }
}
