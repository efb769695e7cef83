/** The boundary cases of the terms, sentence by sentence: pupils, pieces, debts, spies, a week. */
public final class EdgesTermsTest {
    private static final String APART = "school 60 20 0 0;pupil 0 0 9 9;pupil 0 5 9 9;pupil 5 0 9 9;pupil 5 5 9 9;";

    public static void main(String[] args) {
        nearOnEachBench();
        seenOnEachBench();
        whatBeginsAtZero();
        strengthBeginsAsWork();
        twentyPieces();
        eldestFirst();
        debtsOfOneTo99();
        debtsAreNumbered();
        debtsBothWays();
        whoSees();
        whatIsSeen();
        whatIsNotSeen();
        spiesWhoAreDetained();
        handingInByDue();
        aThirdOfTheSums();
        versesOfEachMaker();
        atTheLimit();
        lookedAtBehindHandingIn();
        detentionByThirds();
        whatAPunishmentTakes();
        detentionBecomesLess();
        strengthBehindAWeek();
        debtsGrowUpTo99();
        theWeekGrows();
        Check.end();
    }

    private static String bench(int bench) {
        return "pupil " + bench / 6 + " " + bench % 6;
    }

    private static boolean areNear(int bench, int other) {
        return Math.abs(bench / 6 - other / 6) <= 1 && Math.abs(bench % 6 - other % 6) <= 1;
    }

    private static String times(int times, String command) {
        return command.repeat(times);
    }

    // ---- pupils on benches

    /** "Two pupils are NEAR if their ROWS differ by 1 at most, and their SEATS, too": each bench with each other one. */
    private static void nearOnEachBench() {
        for (int bench = 0; bench < 36; bench++) {
            int next = (bench + 1) % 36;
            HomeworkBarter x = Check.school("school 10 1 0 0;" + bench(bench) + " 1 1 spy;" + bench(next) + " 1 1;");
            Check.due("isNear of bench " + bench + " and itself", true, x.isNear(0, 0));
            Check.due("ifMoved on bench " + bench + " itself", 1, x.ifMoved(1, bench / 6, bench % 6));
            for (int step = 2; step <= 36; step++) dueNear(x, bench, (next + step - (step < 36 ? 1 : 0)) % 36);
        }
    }

    /** The pupil 0, a spy, is on a bench, and the pupil 1 comes to another one. */
    private static void dueNear(HomeworkBarter x, int bench, int other) {
        String where = "benches " + bench + " and " + other + ": ";
        boolean near = areNear(bench, other);
        Check.due(where + "ifMoved", near ? 1 : 0, x.ifMoved(1, other / 6, other % 6));
        Check.due(where + "move", near ? 1 : 0, x.move(1, other / 6, other % 6));
        Check.due(where + "isNear(0, 1)", near, x.isNear(0, 1));
        Check.due(where + "isNear(1, 0)", near, x.isNear(1, 0));
        Check.due(where + "nearTo(0, 0)", near ? 1 : -1, x.nearTo(0, 0));
        Check.due(where + "nearTo(1, 0)", near ? 0 : -1, x.nearTo(1, 0));
        Check.due(where + "bench", 1, x.bench(other / 6, other % 6));
    }

    /** A spy in the middle, one who barters on each bench, and the other one far from the spy. */
    private static void seenOnEachBench() {
        for (int bench = 0; bench < 35; bench++) {
            if (bench == 14) continue;
            HomeworkBarter x = Check.school("school 10 20 0 0;" + bench(bench) + " 1 1;pupil 2 2 1 1 spy;pupil 5 5 1 1;");
            int spies = areNear(bench, 14) ? 1 : 0;
            Check.due("seers of one on " + bench, spies, x.seers(0, 2));
            Check.due("seers the other way round", spies, x.seers(2, 0));
            Check.due("swap of one on " + bench, spies, x.swap(2, 0, 0, 0));
            Check.due("PROOF of one on " + bench, spies, x.pupil(0, 6));
            Check.due("PROOF of the far one", spies, x.pupil(2, 6));
            Check.due("WITNESSES against one on " + bench, spies, x.pupil(0, 13));
            Check.due("WITNESSES against the far one", spies, x.pupil(2, 13));
        }
    }

    /** "PROOF and MARKS (0 at first) and DETENTION (0 at first [...])"; "WEEK is 0 at first". */
    private static void whatBeginsAtZero() {
        HomeworkBarter x = Check.school("school 10 1 9 9;pupil 0 0 1 1 spy;pupil 0 1 1 1 spy;pupil 1 0 1 1;");
        for (int pupil = 0; pupil < 3; pupil++) {
            for (int what = 6; what < 14; what++) Check.due("pupil(" + pupil + ", " + what + ")", 0, x.pupil(pupil, what));
            for (int other = 0; other < 3; other++) {
                Check.due("owes", 0, x.owes(pupil, other, 0) + x.owes(pupil, other, 1));
            }
        }
        Check.due("WEEK", 0, x.count(1));
        Check.due("debts", 0, x.count(8));
        for (int what = 0; what < 10; what++) Check.due("tally(" + what + ")", 0, x.tally(what));
    }

    /** "STRENGTH (at first WORK, which is 10 to 60)". */
    private static void strengthBeginsAsWork() {
        for (int work = 10; work <= 60; work++) {
            HomeworkBarter x = Check.school("school " + work + " 1 0 0;pupil 0 0 1 1;pupil 0 1 9 9 spy;pupil 0 2 5 5;");
            for (int pupil = 0; pupil < 3; pupil++) Check.due("STRENGTH at WORK " + work, work, x.pupil(pupil, 5));
        }
    }

    // ---- satchels

    /** "a SATCHEL for each SUBJECT, with at most 20 pieces": by each way in, to 20, and not to 21. */
    private static void twentyPieces() {
        for (int subject = 0; subject < 2; subject++) {
            String kind = subject == 0 ? "sums" : "verses";
            String ready = "work 1 " + kind + " 18;work 0 " + kind + " 5;";
            HomeworkBarter x = Check.school(APART, ready);
            Check.due("work to 21 " + kind, -3, x.work(1, subject, 3));
            Check.due("work to 20 " + kind, 40, x.work(1, subject, 2));
            Check.due("one more", -3, x.work(1, subject, 1));
            Check.due("pieces", 20, x.pupil(1, 9 + subject));
            Check.due("the other satchel is another one", 35, x.work(1, 1 - subject, 5));
            HomeworkBarter y = Check.school(APART, ready);
            int giver = subject == 0 ? 0 : 1;
            Check.due("swap to 21 " + kind, -3, y.swap(giver, 1 - giver, 3 - 3 * subject, 3 * subject));
            Check.due("swap to 20 " + kind, 0, y.swap(giver, 1 - giver, 2 - 2 * subject, 2 * subject));
            Check.due("one more", -3, y.swap(giver, 1 - giver, 1 - subject, subject));
            Check.due("pieces", 20, y.pupil(1, 9 + subject));
            HomeworkBarter z = Check.school(APART, ready);
            Check.due("lend to 21 " + kind, -3, z.lend(0, 1, subject, 3));
            Check.due("lend to 20 " + kind, 2, z.lend(0, 1, subject, 2));
            Check.due("one more", -3, z.lend(0, 1, subject, 1));
            Check.due("pieces", 20, z.pupil(1, 9 + subject));
            duePaidToTwenty(subject, kind);
        }
    }

    private static void duePaidToTwenty(int subject, String kind) {
        String other = subject == 0 ? "verses" : "sums";
        HomeworkBarter x = Check.school(APART, "work 1 " + other + " 4;lend 1 0 " + other + " 4;work 1 " + kind
            + " 18;work 0 " + kind + " 5;");
        Check.due("payBack to 21 " + kind, -3, x.payBack(0, 1, subject, 3));
        Check.due("payBack to 20 " + kind, 2, x.payBack(0, 1, subject, 2));
        Check.due("one more", -3, x.payBack(0, 1, subject, 1));
        Check.due("pieces", 20, x.pupil(1, 9 + subject));
    }

    /** "pieces that go out of it are the eldest ones of it [...] and come into another SATCHEL in this order". */
    private static void eldestFirst() {
        eldestOfOneSubject(0, "sums", "verses");
        eldestOfOneSubject(1, "verses", "sums");
        HomeworkBarter w = Check.school("school 60 20 2 3;pupil 0 0 9 9;pupil 0 5 9 9;", "work 1 sums 1;work 1 verses 2;"
            + "work 0 sums 3;work 0 verses 3;lend 1 0 sums 1;lend 1 0 verses 1;swap 0 1 3 0;swap 1 0 0 1;swap 1 0 2 0;");
        dueMakers("ahead", w, 0, 0, 1, 0, 0);
        w.pass(1);
        dueMakers("the eldest are handed in", w, 0, 0, 0);
        HomeworkBarter full = Check.school(APART, "work 0 sums 20;work 1 sums 20;lend 0 2 sums 7;lend 1 2 sums 6;"
            + "lend 0 2 sums 7;lend 2 3 sums 20;");
        dueMakers("a full satchel, one after the other", full, 3, 0, 0, 0, 0, 0, 0, 0, 0, 1, 1, 1, 1, 1, 1, 0, 0, 0, 0,
            0, 0, 0);
        dueMakers("and an empty one", full, 2, 0);
    }

    /** 0 has pieces of 1, 2, 2, 3 and 0, and 3 has one of its own. */
    private static void eldestOfOneSubject(int subject, String kind, String otherKind) {
        String ready = "work 1 KIND 1;work 2 KIND 2;work 3 KIND 1;lend 1 0 KIND 1;lend 2 0 KIND 2;lend 3 0 KIND 1;"
            + "work 0 KIND 1;work 3 KIND 1;";
        ready = ready.replace("KIND", kind);
        HomeworkBarter x = Check.school(APART, ready);
        Check.due("swap", 0, subject == 0 ? x.swap(0, 3, 3, 0) : x.swap(3, 0, 0, 3));
        dueMakers("swap: what stays", x, 0, subject, 3, 0);
        dueMakers("swap: what comes behind", x, 3, subject, 3, 1, 2, 2);
        HomeworkBarter y = Check.school(APART, ready);
        Check.due("lend", 4, y.lend(0, 3, subject, 4));
        dueMakers("lend: what stays", y, 0, subject, 0);
        dueMakers("lend: what comes behind", y, 3, subject, 3, 1, 2, 2, 3);
        // For three pieces of the other subject that 0 lends it, 3 owes three of this one, and pays with its eldest.
        HomeworkBarter z = Check.school(APART, ready + "lend 0 3 " + kind + " 2;work 0 " + otherKind + " 3;lend 0 3 "
            + otherKind + " 3;");
        Check.due("payBack", 1, z.payBack(3, 0, subject, 2));
        dueMakers("payBack: what stays", z, 3, subject, 2);
        dueMakers("payBack: what comes behind", z, 0, subject, 2, 3, 0, 3, 1);
    }

    private static void dueMakers(String what, HomeworkBarter x, int pupil, int subject, int... makers) {
        Check.due(what + ": pieces", makers.length, x.pupil(pupil, 9 + subject));
        for (int place = 0; place < makers.length; place++) {
            Check.due(what + ": piece " + place, makers[place], x.piece(pupil, subject, place));
        }
        Check.due(what + ": no more", -1, x.piece(pupil, subject, makers.length));
    }

    // ---- debts

    /** "of some pieces (1 to 99)". */
    private static void debtsOfOneTo99() {
        HomeworkBarter x = Check.school(APART, "work 0 sums 2;work 1 verses 2;lend 0 1 sums 1;");
        dueDebts("the least debt", x, new int[][] {{1, 0, 1, 1}});
        Check.due("payBack of all", 0, x.payBack(1, 0, 1, 1));
        dueDebts("none of 0 pieces", x, new int[][] {});
        x.lend(0, 1, 0, 1);
        x.pass(1);
        x.payBack(1, 0, 1, 1);
        dueDebts("a debt of 1 stays", x, new int[][] {{1, 0, 1, 1}});
        HomeworkBarter y = Check.school(APART, "work 0 sums 20;lend 0 1 sums 20;swap 1 2 20 0;" + times(7, "pass 10;")
            + "pass 8;work 0 sums 20;");
        dueDebts("a debt of 98", y, new int[][] {{1, 0, 1, 98}});
        Check.due("lend to 100", -9, y.lend(0, 1, 0, 2));
        Check.due("lend to 99", 99, y.lend(0, 1, 0, 1));
        Check.due("lend of more", -9, y.lend(0, 1, 0, 1));
        Check.due("the debt the other way round is another one", 1, y.lend(2, 1, 0, 1));
        y.pass(1);
        dueDebts("no more than 99", y, new int[][] {{1, 0, 1, 99}, {1, 2, 1, 2}});
    }

    private static void dueDebts(String what, HomeworkBarter x, int[][] debts) {
        Check.due(what + ": debts", debts.length, x.count(8));
        for (int debt = 0; debt < debts.length; debt++) {
            for (int k = 0; k < 4; k++) {
                Check.due(what + ": debt(" + debt + ", " + k + ")", debts[debt][k], x.debt(debt, k));
            }
            Check.due(what + ": owes", debts[debt][3], x.owes(debts[debt][0], debts[debt][1], debts[debt][2]));
        }
        Check.dueOutOfBounds(what + ": debt(" + debts.length + ", 0)", () -> x.debt(debts.length, 0));
    }

    /** "a debt that grows keeps its number; if one is paid, those behind it have lower numbers then". */
    private static void debtsAreNumbered() {
        String three = "work 0 sums 9;work 2 verses 9;work 3 sums 9;work 1 sums 9;work 1 verses 9;"
            + "lend 0 1 sums 2;lend 2 1 verses 3;lend 3 0 sums 1;";
        int[][] all = {{1, 0, 1, 2}, {1, 2, 0, 3}, {0, 3, 1, 1}};
        HomeworkBarter x = Check.school(APART, three);
        dueDebts("as they came to be", x, all);
        x.lend(0, 1, 0, 4);
        dueDebts("the first one grows", x, new int[][] {{1, 0, 1, 6}, all[1], all[2]});
        x.payBack(1, 2, 0, 2);
        dueDebts("a part is paid", x, new int[][] {{1, 0, 1, 6}, {1, 2, 0, 1}, all[2]});
        x.pass(1);
        dueDebts("a week later", x, new int[][] {{1, 0, 1, 7}, {1, 2, 0, 2}, {0, 3, 1, 2}});
        HomeworkBarter first = Check.school(APART, three + "pay 1 0 verses 2;");
        dueDebts("the first one is paid", first, new int[][] {all[1], all[2]});
        first.lend(0, 1, 0, 1);
        dueDebts("it comes to be again, as the last one", first, new int[][] {all[1], all[2], {1, 0, 1, 1}});
        dueDebts("the one between is paid", Check.school(APART, three + "pay 1 2 sums 3;"),
            new int[][] {all[0], all[2]});
        dueDebts("the last one is paid", Check.school(APART, three + "swap 0 2 0 1;pay 0 3 verses 1;"),
            new int[][] {all[0], all[1]});
    }

    /** "A debt between two pupils in one SUBJECT and one the other way round in the same SUBJECT may both be." */
    private static void debtsBothWays() {
        HomeworkBarter x = Check.school(APART, "work 0 sums 9;work 1 sums 9;work 0 verses 9;work 1 verses 9;"
            + "lend 0 1 sums 2;lend 1 0 sums 3;lend 0 1 verses 4;lend 1 0 verses 5;");
        dueDebts("both ways, in both subjects", x,
            new int[][] {{1, 0, 1, 2}, {0, 1, 1, 3}, {1, 0, 0, 4}, {0, 1, 0, 5}});
        Check.due("what 0 owes", 8, x.pupil(0, 11));
        Check.due("what is owed to 0", 6, x.pupil(0, 12));
        x.payBack(0, 1, 1, 3);
        dueDebts("one of them is paid", x, new int[][] {{1, 0, 1, 2}, {1, 0, 0, 4}, {0, 1, 0, 5}});
    }

    // ---- spies

    /** "each spy who is none of both, is not detained, and is NEAR one of both or both, sees it". */
    private static void whoSees() {
        String both = "school 60 20 0 0;pupil 2 1 9 9;pupil 2 4 9 9;";
        dueSeen("one near the first", both + "pupil 1 0 9 9 spy;", 1);
        dueSeen("one near the other", both + "pupil 3 5 9 9 spy;", 1);
        dueSeen("one on each side", both + "pupil 1 0 9 9 spy;pupil 3 5 9 9 spy;", 2);
        dueSeen("one near none", both + "pupil 4 2 9 9 spy;", 0);
        dueSeen("two SEATS away", both + "pupil 2 3 9 9;pupil 0 3 9 9 spy;", 0);
        dueSeen("one who is no spy", both + "pupil 1 1 9 9;", 0);
        dueSeen("one near both counts once", "school 60 20 0 0;pupil 2 1 9 9;pupil 2 3 9 9;pupil 2 2 9 9 spy;", 1);
        dueSeen("the first is a spy", "school 60 20 0 0;pupil 2 1 9 9 spy;pupil 2 2 9 9;", 0);
        dueSeen("the other is a spy", "school 60 20 0 0;pupil 2 1 9 9;pupil 2 2 9 9 spy;", 0);
        dueSeen("both are spies", "school 60 20 0 0;pupil 2 1 9 9 spy;pupil 2 2 9 9 spy;", 0);
        dueSeen("both are spies, and a third", "school 60 20 0 0;pupil 2 1 9 9 spy;pupil 2 2 9 9 spy;pupil 1 2 9 9 spy;", 1);
        StringBuilder ring = new StringBuilder("school 60 20 0 0;pupil 1 1 9 9;pupil 1 2 9 9;");
        int[] around = {0, 1, 2, 3, 6, 9, 12, 13, 14, 15};
        for (int bench : around) ring.append(bench(bench)).append(" 9 9 spy;");
        dueSeen("ten around both", ring.toString(), 10);
        // The pupil 0 may be the spy, and the last one, too.
        HomeworkBarter x = Check.school("school 60 20 0 0;pupil 0 0 9 9 spy;pupil 0 1 9 9;pupil 1 1 9 9;pupil 1 0 9 9 spy;");
        Check.due("swap", 2, x.swap(1, 2, 0, 0));
        Check.due("witness(1, 0)", 0, x.witness(1, 0));
        Check.due("witness(1, 1)", 3, x.witness(1, 1));
        Check.due("safestPartner(1)", 0, x.safestPartner(1));
        Check.due("ifMoved(1, 0, 1)", 2, x.ifMoved(1, 0, 1));
    }

    private static void dueSeen(String what, String setup, int spies) {
        HomeworkBarter x = Check.school(setup);
        Check.due(what + ": seers", spies, x.seers(0, 1));
        Check.due(what + ": swap", spies, x.swap(0, 1, 0, 0));
        for (int pupil = 0; pupil < x.count(0); pupil++) {
            Check.due(what + ": PROOF of " + pupil, pupil < 2 ? spies : 0, x.pupil(pupil, 6));
            Check.due(what + ": WITNESSES against " + pupil, pupil < 2 ? spies : 0, x.pupil(pupil, 13));
        }
        Check.due(what + ": sights", spies, x.tally(7));
    }

    /** "As two pupils barter (swap(), lend(), payBack())". */
    private static void whatIsSeen() {
        HomeworkBarter x = Check.school("school 60 20 0 0;pupil 0 0 9 9;pupil 0 1 9 9;pupil 1 1 9 9 spy;",
            "work 0 sums 3;work 1 verses 3;");
        dueSeenAgain("swap", 1, x.swap(0, 1, 0, 0), 1, x);
        dueSeenAgain("swap the other way round", 1, x.swap(1, 0, 0, 0), 2, x);
        dueSeenAgain("lend", 2, x.lend(0, 1, 0, 2), 3, x);
        dueSeenAgain("payBack of a part", 1, x.payBack(1, 0, 1, 1), 4, x);
        dueSeenAgain("payBack of the rest", 0, x.payBack(1, 0, 1, 1), 5, x);
    }

    private static void dueSeenAgain(String act, int due, int answer, int times, HomeworkBarter x) {
        Check.due(act, due, answer);
        for (int pupil = 0; pupil < 3; pupil++) {
            Check.due("PROOF behind " + act, pupil < 2 ? times : 0, x.pupil(pupil, 6));
            Check.due("WITNESSES behind " + act, pupil < 2 ? 1 : 0, x.pupil(pupil, 13));
            Check.due("witness behind " + act, pupil < 2 ? 2 : -1, x.witness(pupil, 0));
        }
        Check.due("sights behind " + act, times, x.tally(7));
    }

    private static void whatIsNotSeen() {
        HomeworkBarter x = Check.school("school 60 20 0 0;pupil 0 0 9 9;pupil 0 1 9 9;pupil 1 1 9 9 spy;");
        x.work(0, 0, 5);
        x.move(0, 1, 0);
        x.pass(1);
        Check.due("swap that is refused for 5", -5, x.swap(0, 0, 0, 0));
        Check.due("swap that is refused for 4", -4, x.swap(0, 1, 9, 0));
        Check.due("lend that is refused for 4", -4, x.lend(0, 1, 0, 9));
        Check.due("payBack that is refused for 6", -6, x.payBack(0, 1, 0, 1));
        x.confess(0);
        x.save(0);
        x.restore(0);
        for (int pupil = 0; pupil < 3; pupil++) {
            Check.due("PROOF", 0, x.pupil(pupil, 6));
            Check.due("WITNESSES", 0, x.pupil(pupil, 13));
        }
        Check.due("sights", 0, x.tally(7));
    }

    /** A spy that is detained sees nothing, and one in its last week of DETENTION neither. */
    private static void spiesWhoAreDetained() {
        // The spies 2 and 3 barter; 1 sees it, and they are detained for 1 plus 3 / 3 weeks.
        HomeworkBarter x = Check.school("school 60 1 0 0;pupil 0 0 9 9;pupil 0 1 9 9 spy;pupil 1 1 9 9 spy;pupil 1 0 9 9 spy;"
            + "pupil 0 2 9 9;", times(4, "swap 2 3 0 0;") + "pass 1;");
        int[] detention = {2, 1, 0};
        for (int week = 0; week < 3; week++) {
            Check.due("DETENTION of the spy 2", detention[week], x.pupil(2, 8));
            int spies = detention[week] > 0 ? 1 : 3;
            Check.due("seers(0, 4)", spies, x.seers(0, 4));
            Check.due("ifMoved(0, 0, 0)", spies, x.ifMoved(0, 0, 0));
            x.save(0);
            Check.due("swap(0, 4, 0, 0)", spies, x.swap(0, 4, 0, 0));
            x.restore(0);
            x.pass(1);
        }
    }

    // ---- a week: (a)

    /** "as many as DUE (0 to 9 of each SUBJECT) tells, if it has so many; what is lacking is added to its MARKS". */
    private static void handingInByDue() {
        for (int due = 0; due <= 9; due++) {
            for (int has = 0; has <= 10; has++) {
                for (int subject = 0; subject < 2; subject++) {
                    HomeworkBarter x = Check.school("school 60 20 " + (subject == 0 ? due + " 0" : "0 " + due)
                        + ";pupil 0 0 9 9;pupil 0 5 9 9;", has == 0 ? "" : "work 0 " + (subject == 0 ? "sums " : "verses ")
                        + has + ";");
                    String what = "DUE " + due + " with " + has + ": ";
                    int lacking = Math.max(due - has, 0);
                    Check.due(what + "needs", lacking, x.needs(0, subject));
                    Check.due(what + "needs of the other subject", 0, x.needs(0, 1 - subject));
                    Check.due(what + "ifWeek", lacking, x.ifWeek(0, 0));
                    Check.due(what + "pass", 0, x.pass(1));
                    Check.due(what + "MARKS", lacking, x.pupil(0, 7));
                    Check.due(what + "MARKS of the other", due, x.pupil(1, 7));
                    Check.due(what + "pieces", Math.max(has - due, 0), x.pupil(0, 9 + subject));
                    Check.due(what + "handed in", Math.min(has, due), x.tally(5));
                    Check.due(what + "PROOF", 0, x.pupil(0, 6));
                }
            }
        }
        HomeworkBarter both = Check.school("school 60 20 3 4;pupil 0 0 9 9;pupil 0 5 9 9;", "work 0 sums 1;work 0 verses 1;"
            + "pass 1;");
        Check.due("MARKS of both subjects", 2 + 3, both.pupil(0, 7));
        Check.due("handed in of both subjects", 2, both.tally(5));
    }

    /** "PROOF grows by a third of the sums, rounded down": of those of others, by whomever. */
    private static void aThirdOfTheSums() {
        for (int others = 0; others <= 9; others++) {
            for (int own = 0; own <= 9 - others; own += 3) {
                HomeworkBarter x = Check.school("school 60 20 9 0;pupil 0 0 9 9;pupil 0 5 9 9;pupil 5 0 9 9;",
                    "work 0 sums 9;work 1 sums 9;" + (own > 0 ? "work 2 sums " + own + ";" : "")
                    + (others > 1 ? "lend 0 2 sums " + others / 2 + ";" : "")
                    + (others > 0 ? "lend 1 2 sums " + (others - others / 2) + ";" : ""));
                String what = others + " sums of others and " + own + " of its own: ";
                Check.due(what + "ifWeek", others / 3, x.ifWeek(2, 1));
                x.pass(1);
                Check.due(what + "PROOF", others / 3, x.pupil(2, 6));
                Check.due(what + "PROOF of one who hands in its own", 0, x.pupil(0, 6));
            }
        }
        HomeworkBarter y = Check.school("school 60 20 2 0;pupil 0 0 9 9;pupil 0 5 9 9;", "work 0 sums 9;lend 0 1 sums 3;");
        Check.due("three sums, two of them due", 0, y.ifWeek(1, 1));
        HomeworkBarter z = Check.school("school 60 20 3 0;pupil 0 0 9 9;pupil 0 5 9 9;", "work 0 sums 9;work 1 sums 1;"
            + "lend 0 1 sums 3;");
        Check.due("three due, one of them its own", 0, z.ifWeek(1, 1));
        z.swap(1, 0, 1, 0);
        Check.due("three due, none of them its own", 1, z.ifWeek(1, 1));
    }

    /** "for each MAKER by itself, by the verses of this MAKER less 1". */
    private static void versesOfEachMaker() {
        for (int one = 0; one <= 9; one++) {
            for (int other = 0; other <= 9 - one; other++) {
                HomeworkBarter x = Check.school("school 60 20 0 9;pupil 0 0 9 9;pupil 0 5 9 9;pupil 5 0 9 9;",
                    "work 0 verses 9;work 1 verses 9;" + (one > 0 ? "lend 0 2 verses " + one + ";" : "")
                    + (other > 0 ? "lend 1 2 verses " + other + ";" : "") + "work 2 verses 3;");
                int growth = Math.max(one - 1, 0) + Math.max(other - 1, 0);
                String what = one + " and " + other + " verses of others: ";
                Check.due(what + "ifWeek", growth, x.ifWeek(2, 1));
                x.pass(1);
                Check.due(what + "PROOF", growth, x.pupil(2, 6));
            }
        }
        StringBuilder setup = new StringBuilder("school 60 20 0 9;");
        for (int i = 0; i < 12; i++) setup.append(bench(i)).append(" 9 9;");
        HomeworkBarter y = Check.school(setup.toString());
        for (int i = 0; i < 11; i++) {
            y.work(i, 1, 1);
            y.lend(i, 11, 1, 1);
        }
        Check.due("nine verses of nine makers", 0, y.ifWeek(11, 1));
        Check.due("makers", 11, y.makers(11, 1));
        HomeworkBarter last = Check.school(setup.toString());
        for (int i = 11; i > 0; i--) {
            last.work(i, 1, 2);
            last.lend(i, 0, 1, i > 8 ? 2 : 1);
        }
        Check.due("two verses each of the makers 11, 10 and 9, and three more", 3, last.ifWeek(0, 1));
        last.pass(1);
        Check.due("PROOF of them", 3, last.pupil(0, 6));
        HomeworkBarter own = Check.school("school 60 20 0 9;pupil 0 0 9 9;pupil 0 5 9 9;", "work 0 verses 9;");
        Check.due("nine of its own", 0, own.ifWeek(0, 1));
        HomeworkBarter twice = Check.school("school 60 20 0 2;pupil 0 0 9 9;pupil 0 5 9 9;", "work 0 verses 9;"
            + "lend 0 1 verses 1;pass 1;lend 0 1 verses 1;pass 1;");
        Check.due("one in each of two weeks", 0, twice.pupil(1, 6));
        Check.due("verses that stay do not count", 0, Check.school("school 60 20 0 1;pupil 0 0 9 9;pupil 0 5 9 9;",
            "work 0 verses 9;lend 0 1 verses 9;").ifWeek(1, 1));
    }

    // ---- a week: (b)

    /** A school in which each swap of 0 and 1 is seen by one spy. */
    private static HomeworkBarter seen(int limit, int proof) {
        String setup = "school 21 " + limit + " 0 0;pupil 0 0 9 9;pupil 0 1 9 9;pupil 1 1 9 9 spy;";
        HomeworkBarter x = Check.school(setup);
        for (int i = 0; i < proof; i++) x.swap(0, 1, 0, 0);
        return x;
    }

    /** "if PROOF is LIMIT (1 to 20) or more, the pupil is punished". */
    private static void atTheLimit() {
        for (int limit = 1; limit <= 20; limit++) {
            for (int proof = limit - 1; proof <= limit + 1; proof++) {
                HomeworkBarter x = seen(limit, proof);
                boolean punished = proof >= limit;
                String what = "PROOF " + proof + " at LIMIT " + limit + ": ";
                Check.due(what + "why", punished ? 2 : 5, x.why(0, 0));
                Check.due(what + "ifWeek", punished ? 1 : 0, x.ifWeek(0, 2));
                Check.due(what + "ifPassed", punished ? 2 : 0, x.ifPassed(1, 2));
                Check.due(what + "pass", punished ? 2 : 0, x.pass(1));
                Check.due(what + "DETENTION", punished ? 1 : 0, x.pupil(0, 8));
                Check.due(what + "PROOF", punished ? 0 : proof, x.pupil(0, 6));
                Check.due(what + "WITNESSES", punished || proof == 0 ? 0 : 1, x.pupil(0, 13));
                Check.due(what + "witness", punished || proof == 0 ? -1 : 2, x.witness(0, 0));
                Check.due(what + "punishments", punished ? 2 : 0, x.tally(8));
                Check.due(what + "detained", punished ? 2 : 0, x.count(10));
            }
        }
    }

    /** PROOF is looked at behind what is handed in: LIMIT is reached by that alone. */
    private static void lookedAtBehindHandingIn() {
        String setup = "school 60 2 9 9;pupil 0 0 9 9;pupil 0 5 9 9;";
        HomeworkBarter x = Check.school(setup, "work 0 sums 20;lend 0 1 sums 5;");
        Check.due("five sums: PROOF 1 at LIMIT 2", 0, x.ifWeek(1, 2));
        x.lend(0, 1, 0, 1);
        Check.due("six sums: PROOF 2 at LIMIT 2", 1, x.ifWeek(1, 2));
        Check.due("why", 2, x.why(1, 0));
        Check.due("its cause", 202, x.why(1, 1));
        Check.due("pass", 1, x.pass(1));
        Check.due("PROOF", 0, x.pupil(1, 6));
        Check.due("MARKS", 3 + 9, x.pupil(1, 7));
    }

    /** "1 plus a third of (PROOF less LIMIT), rounded down, 9 at most". */
    private static void detentionByThirds() {
        for (int limit : new int[] {1, 2, 3, 20}) {
            for (int above = 0; above <= 32; above++) {
                HomeworkBarter x = seen(limit, limit + above);
                int detention = Math.min(1 + above / 3, 9);
                String what = "PROOF " + above + " above LIMIT " + limit + ": ";
                Check.due(what + "ifWeek", detention, x.ifWeek(0, 2));
                x.pass(1);
                Check.due(what + "DETENTION", detention, x.pupil(0, 8));
                Check.due(what + "freeIn", detention, x.freeIn(0));
                Check.due(what + "why", 100 + detention, x.why(0, 1));
            }
        }
    }

    /** "all pieces in its SATCHELS are lost"; MARKS, debts and the bench stay. */
    private static void whatAPunishmentTakes() {
        HomeworkBarter x = Check.school("school 60 1 2 1;pupil 0 0 9 9;pupil 0 1 9 9;pupil 3 3 9 9 spy;pupil 5 5 9 9;",
            "work 0 sums 18;work 0 verses 20;work 3 verses 9;work 3 sums 3;lend 3 0 sums 1;lend 0 3 verses 4;"
            + "move 2 1 1;swap 0 1 0 0;");
        x.move(0, 0, 2);
        Check.due("pass: 0 and 1", 2, x.pass(1));
        Check.due("sums", 0, x.pupil(0, 9));
        Check.due("verses", 0, x.pupil(0, 10));
        Check.due("piece", -1, x.piece(0, 0, 0));
        Check.due("pieces lost: 17 sums, 15 verses", 32, x.tally(6));
        Check.due("pieces handed in", 2 + 1 + 2 + 1, x.tally(5));
        Check.due("what is owed to it", 5, x.owes(3, 0, 0));
        Check.due("its bench", 0, x.bench(0, 2));
        Check.due("pieces of one who is not punished", 12, x.pupil(3, 10));
        Check.due("gap", 0, x.gap());
        HomeworkBarter full = Check.school("school 60 1 0 0;pupil 0 0 9 9;pupil 0 1 9 9;pupil 1 1 9 9 spy;",
            "work 0 sums 20;work 0 verses 20;swap 0 2 0 0;swap 0 1 0 0;pass 1;");
        Check.due("two full satchels are lost", 40, full.tally(6));
        Check.due("an empty pupil is punished, too", 2, full.tally(8));
    }

    /** "otherwise DETENTION becomes 1 less, if it is above 0". */
    private static void detentionBecomesLess() {
        HomeworkBarter x = seen(1, 31);
        x.pass(1);
        for (int left = 9; left > 0; left--) {
            Check.due("DETENTION", left, x.pupil(0, 8));
            Check.due("swap of one who is detained", -1, x.swap(0, 2, 0, 0));
            Check.due("detained", 2, x.count(10));
            Check.due("pass", 0, x.pass(1));
        }
        for (int week = 0; week < 2; week++) {
            Check.due("DETENTION", 0, x.pupil(0, 8));
            Check.due("detained", 0, x.count(10));
            Check.due("swap", 0, x.swap(0, 2, 0, 0));
            x.pass(1);
        }
    }

    // ---- a week: (c), and what comes behind it

    /** "STRENGTH is WORK, half of it, rounded down, if it is detained." */
    private static void strengthBehindAWeek() {
        for (int work = 10; work <= 60; work++) {
            HomeworkBarter x = Check.school("school " + work + " 1 0 0;pupil 0 0 9 9;pupil 0 1 9 9;pupil 1 1 9 9 spy;",
                times(4, "swap 0 1 0 0;") + "work 0 sums 10;work 2 verses 9;pass 1;");
            Check.due("STRENGTH of one who is detained, WORK " + work, work / 2, x.pupil(0, 5));
            Check.due("STRENGTH of one who made nothing", work / 2, x.pupil(1, 5));
            Check.due("STRENGTH of one who is free", work, x.pupil(2, 5));
            x.work(0, 0, 5);
            x.pass(1);
            Check.due("STRENGTH in the second week of two", work / 2, x.pupil(0, 5));
            x.pass(1);
            Check.due("STRENGTH behind the last week", work, x.pupil(0, 5));
        }
    }

    /** "Then each DEBT grows by 1, up to 99": also that of one who is detained, also the 30th. */
    private static void debtsGrowUpTo99() {
        HomeworkBarter x = Check.school(APART, "work 0 sums 20;work 1 sums 20;work 0 verses 1;lend 0 2 sums 19;lend 1 3 sums 20;"
            + times(7, "pass 10;") + "pass 8;lend 0 2 verses 1;");
        dueDebts("ahead", x, new int[][] {{2, 0, 1, 97}, {3, 1, 1, 98}, {2, 0, 0, 1}});
        Check.due("pieces by which they grew", 156, x.tally(9));
        x.pass(1);
        dueDebts("a week later", x, new int[][] {{2, 0, 1, 98}, {3, 1, 1, 99}, {2, 0, 0, 2}});
        Check.due("pieces by which they grew", 159, x.tally(9));
        x.pass(1);
        dueDebts("two weeks later", x, new int[][] {{2, 0, 1, 99}, {3, 1, 1, 99}, {2, 0, 0, 3}});
        Check.due("pieces by which they grew", 161, x.tally(9));
        x.pass(1);
        dueDebts("three weeks later", x, new int[][] {{2, 0, 1, 99}, {3, 1, 1, 99}, {2, 0, 0, 4}});
        Check.due("pieces by which they grew", 162, x.tally(9));
        HomeworkBarter y = Check.school("school 60 1 0 0;pupil 0 0 9 9;pupil 0 1 9 9;pupil 1 1 9 9 spy;",
            "work 0 sums 3;lend 0 1 sums 2;pass 1;");
        Check.due("DETENTION", 1, y.pupil(1, 8));
        Check.due("the debt of one who is detained", 3, y.owes(1, 0, 1));
    }

    private static void theWeekGrows() {
        HomeworkBarter x = Check.school(APART);
        int week = 0;
        for (int weeks = 1; weeks <= 10; weeks++) {
            x.pass(weeks);
            week += weeks;
            Check.due("WEEK", week, x.count(1));
        }
    }
}
