/** Promise 48: weeks that end, as the terms tell "A week". */
public final class WeekTest {
    private static final String APART = "school 51 4 3 2;pupil 0 0 9 9;pupil 0 5 9 9;pupil 5 0 9 9;pupil 5 5 9 9;";

    public static void main(String[] args) {
        handingIn();
        proofOfSums();
        proofOfVerses();
        ownPieces();
        punishment();
        punishmentOfTheDetained();
        detention();
        strength();
        debtsGrow();
        severalWeeks();
        theLastWeek();
        wrongArguments();
        Check.end();
    }

    private static void handingIn() {
        HomeworkBarter x = Check.school(APART, "work 0 sums 5;work 0 verses 1;work 1 sums 2;work 1 verses 4;");
        Check.due("pass(1)", 0, x.pass(1));
        Check.due("WEEK", 1, x.count(1));
        int[][] left = {{2, 0, 1}, {0, 2, 1}, {0, 0, 5}, {0, 0, 5}};
        for (int i = 0; i < 4; i++) {
            Check.due("sums of " + i, left[i][0], x.pupil(i, 9));
            Check.due("verses of " + i, left[i][1], x.pupil(i, 10));
            Check.due("MARKS of " + i, left[i][2], x.pupil(i, 7));
        }
        Check.due("pieces handed in", 3 + 1 + 2 + 2, x.tally(5));
        Check.due("pieces lost", 0, x.tally(6));
        x.pass(1);
        Check.due("MARKS of 0 add up", 1 + 1 + 2, x.pupil(0, 7));
        Check.due("MARKS of 1 add up", 1 + 3, x.pupil(1, 7));
        HomeworkBarter y = Check.school(APART, "work 0 verses 2;work 1 verses 2;swap 1 0 0 1;swap 0 1 0 1;"
            + "work 0 verses 2;");
        y.write(0);
        Check.due("ahead", "/abaa", Check.output(y));
        y.pass(1);
        y.write(0);
        Check.due("the eldest are handed in", "/aa", Check.output(y));
    }

    /** A third of the sums of others, whoever made them. */
    private static void proofOfSums() {
        String setup = "school 60 20 9 0;pupil 0 0 9 9;pupil 0 5 9 9;pupil 5 0 9 9;";
        int[] growth = {0, 0, 0, 1, 1, 1, 2, 2, 2, 3, 3};
        for (int sums = 1; sums <= 10; sums++) {
            HomeworkBarter x = Check.school(setup, "work 0 sums 10;lend 0 2 sums " + sums + ";pass 1;");
            Check.due("PROOF of " + sums + " sums", growth[sums], x.pupil(2, 6));
        }
        HomeworkBarter y = Check.school(setup, "work 0 sums 2;work 1 sums 2;lend 0 2 sums 2;lend 1 2 sums 2;pass 1;");
        Check.due("PROOF of 2 and 2 sums", 1, y.pupil(2, 6));
        HomeworkBarter z = Check.school(setup, "work 0 sums 2;work 2 sums 2;lend 0 2 sums 2;pass 1;");
        Check.due("PROOF of 2 sums and 2 of its own", 0, z.pupil(2, 6));
        HomeworkBarter w = Check.school(setup, "work 0 sums 2;lend 0 2 sums 2;pass 1;work 0 sums 2;lend 0 2 sums 2;pass 1;");
        Check.due("PROOF of 2 sums in each of two weeks", 0, w.pupil(2, 6));
    }

    /** For each maker by itself the verses less 1. */
    private static void proofOfVerses() {
        String setup = "school 60 20 0 9;pupil 0 0 9 9;pupil 0 5 9 9;pupil 5 0 9 9;pupil 5 5 9 9;";
        for (int verses = 1; verses <= 9; verses++) {
            HomeworkBarter x = Check.school(setup, "work 0 verses 9;lend 0 2 verses " + verses + ";pass 1;");
            Check.due("PROOF of " + verses + " verses", verses - 1, x.pupil(2, 6));
        }
        HomeworkBarter y = Check.school(setup, "work 0 verses 4;work 1 verses 3;work 3 verses 1;work 2 verses 1;"
            + "lend 0 2 verses 4;lend 1 2 verses 3;lend 3 2 verses 1;pass 1;");
        Check.due("PROOF of 4, 3 and 1 verses and one of its own", 3 + 2, y.pupil(2, 6));
        HomeworkBarter z = Check.school(setup, "work 0 verses 2;work 1 verses 1;lend 0 2 verses 1;lend 1 2 verses 1;"
            + "lend 0 2 verses 1;pass 1;");
        Check.due("PROOF of a verse, another's, and the first one's again", 1, z.pupil(2, 6));
        HomeworkBarter w = Check.school("school 60 20 0 2;pupil 0 0 9 9;pupil 0 5 9 9;",
            "work 0 verses 4;lend 0 1 verses 4;pass 1;");
        Check.due("PROOF of the verses that are handed in alone", 1, w.pupil(1, 6));
        Check.due("SUMS and verses add up", 2 + 1, Check.school("school 60 20 9 9;pupil 0 0 9 9;pupil 0 5 9 9;",
            "work 0 verses 2;work 0 sums 8;lend 0 1 verses 2;lend 0 1 sums 8;pass 1;").pupil(1, 6));
    }

    private static void ownPieces() {
        HomeworkBarter x = Check.school("school 60 20 9 9;pupil 0 0 9 9;pupil 0 5 9 9;",
            "work 0 sums 9;work 0 verses 9;swap 0 1 9 0;swap 1 0 0 9;swap 1 0 9 0;swap 0 1 0 9;pass 1;");
        Check.due("PROOF of pieces that came back to their maker", 0, x.pupil(0, 6));
        Check.due("MARKS", 0, x.pupil(0, 7));
    }

    private static void punishment() {
        String setup = "school 21 4 1 1;pupil 0 0 9 9;pupil 0 1 9 9;pupil 1 1 9 9 spy;pupil 1 0 9 9 spy;";
        HomeworkBarter x = Check.school(setup, "work 0 sums 4;work 0 verses 2;work 1 sums 3;swap 0 1 0 0;");
        Check.due("PROOF 2 is below the LIMIT", 0, x.pass(1));
        Check.due("PROOF stays", 2, x.pupil(0, 6));
        Check.due("WITNESSES stay", 2, x.pupil(0, 13));
        x.swap(0, 1, 0, 0);
        Check.due("PROOF 4 is the LIMIT", 2, x.pass(1));
        for (int i = 0; i < 2; i++) {
            Check.due("PROOF of " + i, 0, x.pupil(i, 6));
            Check.due("WITNESSES against " + i, 0, x.pupil(i, 13));
            Check.due("DETENTION of " + i, 1, x.pupil(i, 8));
            Check.due("sums of " + i, 0, x.pupil(i, 9));
            Check.due("verses of " + i, 0, x.pupil(i, 10));
            Check.due("STRENGTH of " + i, 10, x.pupil(i, 5));
        }
        Check.due("MARKS of 1", 2, x.pupil(1, 7));
        Check.due("pieces handed in, ahead of the punishment", 6, x.tally(5));
        Check.due("pieces lost", 3, x.tally(6));
        Check.due("punishments", 2, x.tally(8));
        Check.due("STRENGTH of 2", 21, x.pupil(2, 5));
        int[] detention = {1, 1, 1, 2, 2, 2, 3};
        for (int confessions = 0; confessions < 7; confessions++) {
            // Each swap of 0 with the spy 3 is seen by the spy 2 alone.
            HomeworkBarter y = Check.school(setup, "swap 0 3 0 0;".repeat(4 + confessions) + "pass 1;");
            Check.due("DETENTION of a PROOF of " + (4 + confessions), detention[confessions], y.pupil(0, 8));
        }
        HomeworkBarter z = Check.school("school 20 1 3 0;pupil 0 0 9 9;pupil 0 5 9 9;",
            "work 0 sums 5;lend 0 1 sums 5;");
        Check.due("what is handed in is looked at in the same week", 1, z.pass(1));
        Check.due("pieces lost", 2, z.tally(6));
        Check.due("punished", 1, z.pupil(1, 8));
        Check.due("its debt stays, and grows", 6, z.owes(1, 0, 1));
    }

    /** PROOF of a pupil who is detained is 0 as long as it is: it can but work for itself. */
    private static void punishmentOfTheDetained() {
        HomeworkBarter x = Check.school("school 20 1 3 3;pupil 0 0 9 9;pupil 0 1 9 9;pupil 1 1 9 9 spy;",
            "swap 0 1 0 0;swap 0 1 0 0;swap 0 1 0 0;swap 0 1 0 0;pass 1;");
        Check.due("DETENTION", 2, x.pupil(0, 8));
        x.work(0, 0, 6);
        Check.due("pass(1)", 0, x.pass(1));
        Check.due("DETENTION", 1, x.pupil(0, 8));
        Check.due("sums that were not lost", 3, x.pupil(0, 9));
    }

    private static void detention() {
        HomeworkBarter x = Check.school("school 15 1 0 0;pupil 0 0 9 9;pupil 0 1 9 9;pupil 1 1 9 9 spy;",
            "swap 0 1 0 0;".repeat(7) + "pass 1;");
        for (int weeks = 3; weeks > 0; weeks--) {
            Check.due("DETENTION", weeks, x.pupil(0, 8));
            Check.due("STRENGTH", 7, x.pupil(0, 5));
            Check.due("barter", -1, x.swap(0, 2, 0, 0));
            x.pass(1);
        }
        Check.due("DETENTION", 0, x.pupil(0, 8));
        Check.due("STRENGTH", 15, x.pupil(0, 5));
        Check.due("barter", 0, x.swap(0, 2, 0, 0));
        x.pass(1);
        Check.due("DETENTION is not below 0", 0, x.pupil(0, 8));
        HomeworkBarter y = Check.school("school 15 1 0 0;pupil 0 0 9 9;pupil 0 1 9 9;pupil 1 1 9 9 spy;pupil 1 0 9 9 spy;",
            "swap 0 1 0 0;".repeat(14) + "pass 1;");
        Check.due("DETENTION of a PROOF of 28", 9, y.pupil(0, 8));
    }

    private static void strength() {
        HomeworkBarter x = Check.school(APART, "work 0 sums 20;work 1 sums 1;");
        x.pass(1);
        for (int i = 0; i < 4; i++) Check.due("STRENGTH of " + i + " is WORK", 51, x.pupil(i, 5));
        HomeworkBarter y = Check.school("school 11 1 0 0;pupil 0 0 9 9;pupil 0 1 9 9;pupil 1 1 9 9 spy;",
            "work 0 sums 11;swap 0 1 0 0;pass 1;");
        Check.due("half of 11", 5, y.pupil(0, 5));
        Check.due("half of 11, whatever was left", 5, y.pupil(1, 5));
        Check.due("STRENGTH of the spy", 11, y.pupil(2, 5));
    }

    private static void debtsGrow() {
        HomeworkBarter x = Check.school(APART, "work 0 sums 20;work 1 sums 20;lend 0 2 sums 2;lend 1 3 sums 20;");
        x.pass(1);
        Check.due("owes(2, 0, 1)", 3, x.owes(2, 0, 1));
        Check.due("owes(3, 1, 1)", 21, x.owes(3, 1, 1));
        Check.due("pieces by which debts grew", 2, x.tally(9));
        for (int i = 0; i < 7; i++) x.pass(10);
        x.pass(7);
        Check.due("owes(3, 1, 1)", 98, x.owes(3, 1, 1));
        x.pass(1);
        Check.due("owes(3, 1, 1)", 99, x.owes(3, 1, 1));
        Check.due("pieces by which debts grew", 2 * 79, x.tally(9));
        x.pass(1);
        Check.due("99 at most", 99, x.owes(3, 1, 1));
        Check.due("the other one grows on", 82, x.owes(2, 0, 1));
        Check.due("pieces by which debts grew", 2 * 79 + 1, x.tally(9));
        Check.due("numbers stay", 2, x.debt(0, 0));
    }

    private static void severalWeeks() {
        String setup = "school 20 2 1 0;pupil 0 0 9 9;pupil 0 1 9 9;pupil 1 1 9 9 spy;pupil 5 5 9 9;pupil 5 0 9 9;";
        String script = "work 3 sums 8;lend 3 4 sums 8;work 0 sums 3;swap 0 1 0 0;swap 0 1 0 0;work 1 sums 3;";
        HomeworkBarter x = Check.school(setup, script);
        HomeworkBarter y = Check.school(setup, script);
        Check.due("pass(4): its punishments", 2, x.pass(4));
        int punished = 0;
        for (int i = 0; i < 4; i++) punished += y.pass(1);
        Check.due("punishments week by week", 2, punished);
        Check.due("several weeks are as each by itself", Check.state(y), Check.state(x));
        Check.due("several weeks are one act", 7, x.undo() + 2);
        Check.due("WEEK behind undo", 0, x.count(1));
        Check.due("pass(10)", 2, x.pass(10));
        Check.due("WEEK", 10, x.count(1));
    }

    private static void theLastWeek() {
        HomeworkBarter x = new HomeworkBarter();
        for (int i = 0; i < 99; i++) Check.due("pass(10)", 0, x.pass(10));
        Check.due("WEEK", 990, x.count(1));
        Check.due("pass(10) to 1000", -10, x.pass(10));
        Check.due("WEEK", 990, x.count(1));
        Check.due("pass(9) to 999", 0, x.pass(9));
        Check.due("WEEK", 999, x.count(1));
        String before = Check.state(x);
        Check.due("pass(1) to 1000", -10, x.pass(1));
        Check.due("play of pass", 0, Check.play(x, "pass 1;"));
        Check.due("refusals", 3, x.refusals(10));
        Check.due("state", before, Check.state(x));
        Check.due("MARKS", 999 * 3, x.pupil(0, 7));
    }

    private static void wrongArguments() {
        for (int weeks : new int[] {0, -1, 11, Integer.MIN_VALUE, Integer.MAX_VALUE}) {
            Check.dueThrowAndNoChange("pass(" + weeks + ")", IllegalArgumentException.class, HomeworkBarter::new,
                x -> x.pass(weeks));
        }
    }
}
