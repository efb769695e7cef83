/** Schools that several tests need. */
final class Fixtures {
    private static final int LENDERS = 6;

    private Fixtures() {
    }

    /**
     * Seven pupils of whom the first six have each lent one sum to each other one of them: 30 debts of one verse.
     * The debts come by rising lenders, and for each by rising debtors; each pupil has sums and verses.
     */
    static HomeworkBarter thirtyDebts() {
        HomeworkBarter x = Check.school("school 60 20 0 0;pupil 0 0 9 9;pupil 0 1 9 9;pupil 0 2 9 9;pupil 0 3 9 9;"
            + "pupil 0 4 9 9;pupil 0 5 9 9;pupil 1 0 9 9;");
        for (int pupil = 0; pupil <= LENDERS; pupil++) {
            x.work(pupil, 0, 7);
            x.work(pupil, 1, 7);
        }
        for (int lender = 0; lender < LENDERS; lender++) {
            for (int other = 0; other < LENDERS; other++) {
                if (other != lender && x.lend(lender, other, 0, 1) != 1) Check.tell("a loan of a test is refused");
            }
        }
        return x;
    }

    static int lastDebtor() {
        return LENDERS - 2;
    }

    /** Satchels of 0 and 3 with pieces of all four, in changing order, and debts both ways. */
    static HomeworkBarter mixedSatchels() {
        return Check.school("school 60 20 1 1;pupil 0 0 9 9;pupil 0 5 9 9;pupil 5 0 9 9;pupil 5 5 9 9;",
            "work 0 sums 9;work 1 sums 9;work 2 sums 9;work 3 sums 9;work 1 verses 9;work 2 verses 9;work 3 verses 5;"
                + "lend 1 0 sums 2;lend 2 0 sums 1;lend 1 0 sums 2;lend 0 3 sums 9;lend 2 3 verses 3;lend 1 3 verses 2;"
                + "lend 2 3 verses 1;swap 3 0 4 0;swap 0 3 1 2;");
    }
}
