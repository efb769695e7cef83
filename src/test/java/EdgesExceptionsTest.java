import java.util.ArrayList;
import java.util.List;

/**
 * "A method that throws an exception changes nothing. If several exceptions apply, the one that comes first in the
 * list of exceptions of the method is thrown. Exceptions come ahead of reasons." Each number of each method: the last
 * ones inside its range, which do not throw, and the first ones outside.
 */
public final class EdgesExceptionsTest {
    private static final Class<IndexOutOfBoundsException> OUT_OF_BOUNDS = IndexOutOfBoundsException.class;
    private static final Class<IllegalArgumentException> ILLEGAL = IllegalArgumentException.class;

    private interface Call {
        void on(HomeworkBarter x, int number);
    }

    /** One number of a method: inside of a range, or an exception. */
    private static final class Place {
        final String name;
        final Class<? extends RuntimeException> thrown;
        final int least;
        final int most;
        final Call call;

        Place(String name, Class<? extends RuntimeException> thrown, int least, int most, Call call) {
            this.name = name;
            this.thrown = thrown;
            this.least = least;
            this.most = most;
            this.call = call;
        }
    }

    public static void main(String[] args) {
        for (Place place : places()) dueOfPlace(place);
        for (Place place : severalWrong()) dueOutside(place);
        seersOfOneAlone();
        pupilsOfOtherSchools();
        withoutDebts();
        thirtyDebts();
        aheadOfReasons();
        restoreOfNothing();
        Check.end();
    }

    /** Four pupils, two debts; 0 and 1 are detained. */
    private static HomeworkBarter lived() {
        HomeworkBarter x = Check.school("school 60 1 0 0;pupil 0 0 9 9;pupil 0 1 9 9;pupil 3 3 9 9 spy;pupil 5 5 9 9;",
            "work 3 sums 9;work 3 verses 9;lend 3 0 sums 1;lend 3 1 verses 1;move 2 1 1;swap 0 1 0 0;pass 1;"
                + "work 3 sums 2;work 2 verses 3;lend 2 3 verses 1;pay 3 2 sums 1;");
        x.swap(3, 3, 0, 0);
        x.move(3, 5, 5);
        return x;
    }

    // ---- one number that is inside or outside

    private static List<Place> places() {
        List<Place> all = new ArrayList<>();
        addPupils(all);
        addOtherPupils(all);
        addDebts(all);
        addNumbers(all);
        addNumbersOfActs(all);
        return all;
    }

    private static void addPupils(List<Place> all) {
        addPupil(all, "pupil", (x, no) -> x.pupil(no, 0));
        addPupil(all, "piece", (x, no) -> x.piece(no, 0, 0));
        addPupil(all, "madeBy", (x, no) -> x.madeBy(no, 0, 0));
        addPupil(all, "owes", (x, no) -> x.owes(no, 0, 0));
        addPupil(all, "isNear", (x, no) -> x.isNear(no, 0));
        addPupil(all, "witness", (x, no) -> x.witness(no, 0));
        addPupil(all, "seers", (x, no) -> x.seers(no, no == 0 ? 1 : 0));
        addPupil(all, "why", (x, no) -> x.why(no, 0));
        addPupil(all, "makers", (x, no) -> x.makers(no, 0));
        addPupil(all, "needs", (x, no) -> x.needs(no, 0));
        addPupil(all, "nearTo", (x, no) -> x.nearTo(no, 0));
        addPupil(all, "debtOf", (x, no) -> x.debtOf(no, 0));
        addPupil(all, "ownShare", (x, no) -> x.ownShare(no));
        addPupil(all, "couldMake", (x, no) -> x.couldMake(no, 0));
        addPupil(all, "ifWeek", (x, no) -> x.ifWeek(no, 0));
        addPupil(all, "freeIn", (x, no) -> x.freeIn(no));
        addPupil(all, "ifMoved", (x, no) -> x.ifMoved(no, 0, 0));
        addPupil(all, "whySwap", (x, no) -> x.whySwap(no, 0, 0, 0));
        addPupil(all, "whyLend", (x, no) -> x.whyLend(no, 0, 0, 1));
        addPupil(all, "safestBench", (x, no) -> x.safestBench(no));
        addPupil(all, "safestPartner", (x, no) -> x.safestPartner(no));
        addPupil(all, "drownsIn", (x, no) -> x.drownsIn(no, 0));
        addPupil(all, "work", (x, no) -> x.work(no, 0, 1));
        addPupil(all, "swap", (x, no) -> x.swap(no, 0, 0, 0));
        addPupil(all, "lend", (x, no) -> x.lend(no, 0, 0, 1));
        addPupil(all, "payBack", (x, no) -> x.payBack(no, 0, 0, 1));
        addPupil(all, "move", (x, no) -> x.move(no, 0, 0));
        addPupil(all, "confess", (x, no) -> x.confess(no));
        addPupil(all, "write", (x, no) -> x.write(no));
    }

    private static void addOtherPupils(List<Place> all) {
        addPupil(all, "madeBy, maker", (x, no) -> x.madeBy(0, 0, no));
        addPupil(all, "owes, other", (x, no) -> x.owes(0, no, 0));
        addPupil(all, "isNear, other", (x, no) -> x.isNear(0, no));
        addPupil(all, "seers, other", (x, no) -> x.seers(no == 0 ? 1 : 0, no));
        addPupil(all, "whySwap, other", (x, no) -> x.whySwap(0, no, 0, 0));
        addPupil(all, "whyLend, other", (x, no) -> x.whyLend(0, no, 0, 1));
        addPupil(all, "swap, other", (x, no) -> x.swap(0, no, 0, 0));
        addPupil(all, "lend, other", (x, no) -> x.lend(0, no, 0, 1));
        addPupil(all, "payBack, other", (x, no) -> x.payBack(0, no, 0, 1));
        addPupil(all, "whySwap, both", (x, no) -> x.whySwap(no, no, 0, 0));
        addPupil(all, "whyLend, both", (x, no) -> x.whyLend(no, no, 0, 1));
        addPupil(all, "isNear, both", (x, no) -> x.isNear(no, no));
        addPupil(all, "owes, both", (x, no) -> x.owes(no, no, 1));
    }

    private static void addPupil(List<Place> all, String name, Call call) {
        all.add(new Place(name, OUT_OF_BOUNDS, 0, 3, call));
    }

    private static void addDebts(List<Place> all) {
        all.add(new Place("debt", OUT_OF_BOUNDS, 0, 1, (x, no) -> x.debt(no, 0)));
        all.add(new Place("canPay", OUT_OF_BOUNDS, 0, 1, (x, no) -> x.canPay(no)));
    }

    private static void addNumbers(List<Place> all) {
        addNumber(all, "truncateText", 0, 18, (x, no) -> x.truncateText(no));
        addNumber(all, "count", 0, 12, (x, no) -> x.count(no));
        addNumber(all, "tally", 0, 9, (x, no) -> x.tally(no));
        addNumber(all, "pupil, what", 0, 13, (x, no) -> x.pupil(3, no));
        addNumber(all, "piece, subject", 0, 1, (x, no) -> x.piece(3, no, 0));
        addNumber(all, "madeBy, subject", 0, 1, (x, no) -> x.madeBy(3, no, 3));
        addNumber(all, "debt, what", 0, 3, (x, no) -> x.debt(1, no));
        addNumber(all, "owes, subject", 0, 1, (x, no) -> x.owes(0, 3, no));
        addNumber(all, "bench, row", 0, 5, (x, no) -> x.bench(no, 5));
        addNumber(all, "bench, seat", 0, 5, (x, no) -> x.bench(5, no));
        addNumber(all, "why, depth", 0, 1, (x, no) -> x.why(3, no));
        addNumber(all, "most", 0, 4, (x, no) -> x.most(no));
        addNumber(all, "ranked, subject", 0, 1, (x, no) -> x.ranked(no, 0));
        addNumber(all, "mostOf", 0, 1, (x, no) -> x.mostOf(no));
        addNumber(all, "makers, subject", 0, 1, (x, no) -> x.makers(3, no));
        addNumber(all, "needs, subject", 0, 1, (x, no) -> x.needs(3, no));
        addNumber(all, "refusals", 1, 10, (x, no) -> x.refusals(no));
        addNumber(all, "couldMake, subject", 0, 1, (x, no) -> x.couldMake(3, no));
        addNumber(all, "ifWeek, what", 0, 2, (x, no) -> x.ifWeek(3, no));
        addNumber(all, "ifPassed, weeks", 0, 30, (x, no) -> x.ifPassed(no, 0));
        addNumber(all, "ifPassed, what", 0, 3, (x, no) -> x.ifPassed(1, no));
        addNumber(all, "ifMoved, row", 0, 5, (x, no) -> x.ifMoved(3, no, 5));
        addNumber(all, "ifMoved, seat", 0, 5, (x, no) -> x.ifMoved(3, 5, no));
        addNumber(all, "whySwap, sums", 0, 20, (x, no) -> x.whySwap(3, 2, no, 0));
        addNumber(all, "whySwap, verses", 0, 20, (x, no) -> x.whySwap(3, 2, 0, no));
        addNumber(all, "whyLend, subject", 0, 1, (x, no) -> x.whyLend(3, 2, no, 1));
        addNumber(all, "whyLend, pieces", 1, 20, (x, no) -> x.whyLend(3, 2, 0, no));
        addNumber(all, "drownsIn, subject", 0, 1, (x, no) -> x.drownsIn(3, no));
        addNumber(all, "save", 0, 1, (x, no) -> x.save(no));
        addNumber(all, "restore", 1, 1, (x, no) -> x.restore(no == 0 ? 2 : no));
    }

    private static void addNumbersOfActs(List<Place> all) {
        addNumber(all, "work, subject", 0, 1, (x, no) -> x.work(3, no, 1));
        addNumber(all, "work, pieces", 1, 20, (x, no) -> x.work(3, 0, no));
        addNumber(all, "swap, sums", 0, 20, (x, no) -> x.swap(3, 2, no, 0));
        addNumber(all, "swap, verses", 0, 20, (x, no) -> x.swap(3, 2, 0, no));
        addNumber(all, "lend, subject", 0, 1, (x, no) -> x.lend(3, 2, no, 1));
        addNumber(all, "lend, pieces", 1, 20, (x, no) -> x.lend(3, 2, 0, no));
        addNumber(all, "payBack, subject", 0, 1, (x, no) -> x.payBack(0, 3, no, 1));
        addNumber(all, "payBack, pieces", 1, 20, (x, no) -> x.payBack(0, 3, 0, no));
        addNumber(all, "move, row", 0, 5, (x, no) -> x.move(3, no, 4));
        addNumber(all, "move, seat", 0, 5, (x, no) -> x.move(3, 4, no));
        addNumber(all, "pass", 1, 10, (x, no) -> x.pass(no));
    }

    private static void addNumber(List<Place> all, String name, int least, int most, Call call) {
        all.add(new Place(name, ILLEGAL, least, most, call));
    }

    private static void dueOfPlace(Place place) {
        for (int number = place.least; number <= place.most; number++) dueInside(place, number);
        dueOutside(place);
    }

    private static void dueInside(Place place, int number) {
        HomeworkBarter x = lived();
        Parts.fill(x);
        try {
            place.call.on(x, number);
        } catch (RuntimeException e) {
            Check.tell(place.name + " with " + number + " threw " + e);
        }
    }

    private static void dueOutside(Place place) {
        int[] outside = {place.least - 1, place.most + 1, place.most + 2, place.least - 100, place.most + 256,
            place.least - 65536, Integer.MIN_VALUE, Integer.MIN_VALUE + 1, Integer.MAX_VALUE, Integer.MAX_VALUE - 1};
        for (int number : outside) {
            Check.dueThrowAndNoChange(place.name + " with " + number, place.thrown, EdgesExceptionsTest::lived,
                x -> place.call.on(x, number));
        }
    }

    // ---- several numbers that are outside: the exception that comes first

    /** Where a pupil or a debt is none, the other numbers are wrong, too. */
    private static List<Place> severalWrong() {
        List<Place> all = new ArrayList<>();
        for (int bad : new int[] {-1, 99}) {
            addPupil(all, "pupil, what " + bad, (x, no) -> x.pupil(no, bad));
            addPupil(all, "piece, subject " + bad, (x, no) -> x.piece(no, bad, 0));
            addPupil(all, "madeBy, subject " + bad, (x, no) -> x.madeBy(no, bad, 0));
            addPupil(all, "madeBy, maker, subject " + bad, (x, no) -> x.madeBy(0, bad, no));
            addPupil(all, "owes, subject " + bad, (x, no) -> x.owes(no, 0, bad));
            addPupil(all, "owes, other, subject " + bad, (x, no) -> x.owes(0, no, bad));
            addPupil(all, "seers of the same " + bad, (x, no) -> x.seers(no, no));
            addPupil(all, "why, depth " + bad, (x, no) -> x.why(no, bad));
            addPupil(all, "makers, subject " + bad, (x, no) -> x.makers(no, bad));
            addPupil(all, "needs, subject " + bad, (x, no) -> x.needs(no, bad));
            addPupil(all, "couldMake, subject " + bad, (x, no) -> x.couldMake(no, bad));
            addPupil(all, "ifWeek, what " + bad, (x, no) -> x.ifWeek(no, bad));
            addPupil(all, "ifMoved, row " + bad, (x, no) -> x.ifMoved(no, bad, 0));
            addPupil(all, "ifMoved, seat " + bad, (x, no) -> x.ifMoved(no, 0, bad));
            addPupil(all, "drownsIn, subject " + bad, (x, no) -> x.drownsIn(no, bad));
            addPupil(all, "work, subject " + bad, (x, no) -> x.work(no, bad, 1));
            addPupil(all, "work, pieces " + bad, (x, no) -> x.work(no, 0, bad));
            addPupil(all, "move, row " + bad, (x, no) -> x.move(no, bad, 0));
            addPupil(all, "move, seat " + bad, (x, no) -> x.move(no, 0, bad));
            addSwaps(all, bad);
            addLoans(all, bad);
            all.add(new Place("debt, what " + bad, OUT_OF_BOUNDS, 0, 1, (x, no) -> x.debt(no, bad)));
        }
        return all;
    }

    private static void addSwaps(List<Place> all, int bad) {
        addPupil(all, "whySwap, sums " + bad, (x, no) -> x.whySwap(no, 0, bad, 0));
        addPupil(all, "whySwap, verses " + bad, (x, no) -> x.whySwap(no, 0, 0, bad));
        addPupil(all, "whySwap, other, sums " + bad, (x, no) -> x.whySwap(0, no, bad, 0));
        addPupil(all, "whySwap, other, verses " + bad, (x, no) -> x.whySwap(0, no, 0, bad));
        addPupil(all, "swap, sums " + bad, (x, no) -> x.swap(no, 0, bad, 0));
        addPupil(all, "swap, verses " + bad, (x, no) -> x.swap(no, 0, 0, bad));
        addPupil(all, "swap, other, sums " + bad, (x, no) -> x.swap(0, no, bad, 0));
        addPupil(all, "swap, other, verses " + bad, (x, no) -> x.swap(0, no, 0, bad));
        addPupil(all, "swap, both, sums and verses " + bad, (x, no) -> x.swap(no, no, bad, bad));
    }

    private static void addLoans(List<Place> all, int bad) {
        addPupil(all, "whyLend, subject " + bad, (x, no) -> x.whyLend(no, 0, bad, 1));
        addPupil(all, "whyLend, pieces " + bad, (x, no) -> x.whyLend(no, 0, 0, bad));
        addPupil(all, "whyLend, other, subject " + bad, (x, no) -> x.whyLend(0, no, bad, 1));
        addPupil(all, "whyLend, other, pieces " + bad, (x, no) -> x.whyLend(0, no, 0, bad));
        addPupil(all, "lend, subject " + bad, (x, no) -> x.lend(no, 0, bad, 1));
        addPupil(all, "lend, pieces " + bad, (x, no) -> x.lend(no, 0, 0, bad));
        addPupil(all, "lend, other, subject " + bad, (x, no) -> x.lend(0, no, bad, 1));
        addPupil(all, "lend, other, pieces " + bad, (x, no) -> x.lend(0, no, 0, bad));
        addPupil(all, "payBack, subject " + bad, (x, no) -> x.payBack(no, 0, bad, 1));
        addPupil(all, "payBack, pieces " + bad, (x, no) -> x.payBack(no, 0, 0, bad));
        addPupil(all, "payBack, other, subject " + bad, (x, no) -> x.payBack(0, no, bad, 1));
        addPupil(all, "payBack, other, pieces " + bad, (x, no) -> x.payBack(0, no, 0, bad));
        addPupil(all, "lend, both, all " + bad, (x, no) -> x.lend(no, no, bad, bad));
        addPupil(all, "payBack, both, all " + bad, (x, no) -> x.payBack(no, no, bad, bad));
    }

    /** "IllegalArgumentException if both are the same". */
    private static void seersOfOneAlone() {
        for (int pupil = 0; pupil < 4; pupil++) {
            int one = pupil;
            Check.dueThrowAndNoChange("seers(" + pupil + ", " + pupil + ")", ILLEGAL, EdgesExceptionsTest::lived,
                x -> x.seers(one, one));
        }
    }

    // ---- how many pupils and debts there are

    /** "if there is no such pupil": in schools of two and of twelve, and of fewer than before. */
    private static void pupilsOfOtherSchools() {
        HomeworkBarter two = Check.school("school 10 1 0 0;pupil 0 0 1 1;pupil 5 5 1 1;");
        Check.due("the last one of two", 5, two.pupil(1, 0));
        Check.dueOutOfBounds("a third one of two", () -> two.pupil(2, 0));
        Check.dueOutOfBounds("swap with a third one of two", () -> two.swap(0, 2, 0, 0));
        Check.dueOutOfBounds("confess of a third one of two", () -> two.confess(2));
        StringBuilder setup = new StringBuilder("school 10 1 0 0;");
        for (int i = 0; i < 12; i++) setup.append("pupil ").append(i / 6).append(' ').append(i % 6).append(" 9 9;");
        HomeworkBarter twelve = Check.school(setup.toString());
        Check.due("the last one of twelve", 1, twelve.pupil(11, 0));
        Check.due("work of the last one of twelve", 9, twelve.work(11, 1, 1));
        Check.due("madeBy the last one of twelve", 1, twelve.madeBy(11, 1, 11));
        Check.dueOutOfBounds("a 13th one of twelve", () -> twelve.pupil(12, 0));
        Check.dueOutOfBounds("madeBy a 13th one", () -> twelve.madeBy(0, 0, 12));
        Check.dueOutOfBounds("write of a 13th one", () -> twelve.write(12));
        twelve.save(0);
        Check.load(twelve, "school 10 1 0 0;pupil 0 0 1 1;pupil 5 5 1 1;");
        Check.dueOutOfBounds("one of those who were there before load", () -> twelve.pupil(2, 0));
        twelve.restore(0);
        Check.due("one of those who are there again", 1, twelve.pupil(11, 0));
    }

    private static void withoutDebts() {
        HomeworkBarter x = new HomeworkBarter();
        for (int no : new int[] {-1, 0, 1, 29, 30, Integer.MIN_VALUE, Integer.MAX_VALUE}) {
            Check.dueOutOfBounds("debt(" + no + ", 0) without debts", () -> x.debt(no, 0));
            Check.dueOutOfBounds("debt(" + no + ", 4) without debts", () -> x.debt(no, 4));
            Check.dueOutOfBounds("canPay(" + no + ") without debts", () -> x.canPay(no));
        }
        x.work(0, 0, 3);
        x.lend(0, 1, 0, 1);
        Check.due("the first debt", 1, x.debt(0, 0));
        Check.dueOutOfBounds("a second one", () -> x.debt(1, 0));
        x.undo();
        Check.dueOutOfBounds("a debt that was undone", () -> x.debt(0, 0));
    }

    private static void thirtyDebts() {
        HomeworkBarter x = Fixtures.thirtyDebts();
        Check.due("the last of thirty debts", Fixtures.lastDebtor(), x.debt(29, 0));
        Check.due("canPay of the last one", true, x.canPay(29));
        Check.dueOutOfBounds("debt(30, 0)", () -> x.debt(30, 0));
        Check.dueOutOfBounds("canPay(30)", () -> x.canPay(30));
    }

    // ---- exceptions come ahead of reasons

    /** Each of these calls would be refused if its numbers were right. */
    private static void aheadOfReasons() {
        dueIllegal("work for which it is too weak", x -> x.work(0, 0, 21));
        dueIllegal("work of subject 2", x -> x.work(0, 2, 20));
        dueIllegal("swap with itself", x -> x.swap(0, 0, 21, 0));
        dueIllegal("swap with itself, verses", x -> x.swap(0, 0, 0, -1));
        dueIllegal("swap of one who is detained", x -> x.swap(0, 3, 0, 21));
        dueIllegal("lend to itself", x -> x.lend(0, 0, 0, 21));
        dueIllegal("lend to itself, subject 2", x -> x.lend(3, 3, 2, 1));
        dueIllegal("lend of nothing to one who is detained", x -> x.lend(3, 0, 0, 0));
        dueIllegal("payBack to itself", x -> x.payBack(0, 0, 0, 0));
        dueIllegal("payBack of no debt", x -> x.payBack(2, 0, -1, 1));
        dueIllegal("payBack of more than the debt", x -> x.payBack(0, 3, 1, 21));
        dueIllegal("move of one who is detained", x -> x.move(0, 6, 5));
        dueIllegal("move of one who is detained, seat", x -> x.move(0, 5, 6));
        Check.dueThrowAndNoChange("swap of one who is detained with nobody", OUT_OF_BOUNDS, EdgesExceptionsTest::lived,
            x -> x.swap(0, 4, 0, 0));
        Check.dueThrowAndNoChange("pass of 11 at the last WEEK", ILLEGAL, EdgesExceptionsTest::atTheLastWeek, x -> x.pass(11));
        Check.dueThrowAndNoChange("pass of 0 at the last WEEK", ILLEGAL, EdgesExceptionsTest::atTheLastWeek, x -> x.pass(0));
        Check.dueRefusal("pass of 1 at the last WEEK", 10, EdgesExceptionsTest::atTheLastWeek, x -> x.pass(1));
    }

    private static HomeworkBarter atTheLastWeek() {
        HomeworkBarter x = new HomeworkBarter();
        for (int i = 0; i < 99; i++) x.pass(10);
        x.pass(9);
        return x;
    }

    private static void dueIllegal(String call, java.util.function.Consumer<HomeworkBarter> run) {
        Check.dueThrowAndNoChange(call, ILLEGAL, EdgesExceptionsTest::lived, run);
    }

    /** "IllegalArgumentException if slot is out of range", ahead of "IllegalStateException if nothing is saved there". */
    private static void restoreOfNothing() {
        Check.dueThrowAndNoChange("restore(0) of nothing", IllegalStateException.class, EdgesExceptionsTest::lived,
            x -> x.restore(0));
        for (int slot = -1; slot <= 2; slot++) {
            int one = slot;
            HomeworkBarter x = lived();
            boolean isSlot = slot == 0 || slot == 1;
            Check.dueThrow("restore(" + slot + ") of nothing", isSlot ? IllegalStateException.class : ILLEGAL,
                () -> x.restore(one));
            Check.due("acts behind it", 6, x.count(12));
        }
    }
}
