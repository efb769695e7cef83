import java.util.function.Consumer;

/** The boundary cases of promises 49 to 53, sentence by sentence, and what an object can do in its 512 calls. */
public final class EdgesKeepingTest {
    private static final String APART = "school 60 20 0 0;pupil 0 0 9 9;pupil 0 5 9 9;pupil 5 0 9 9;pupil 5 5 9 9;";

    public static void main(String[] args) {
        outputsOfSatchels();
        outputsOfDebts();
        theLongestOutput();
        bytesOfTheOutput();
        otherCallsLeaveTheOutput();
        writeChangesTheOutputAlone();
        sixActs();
        whatIsNoAct();
        undoneActsDoNotCount();
        undoOfEachAct();
        undoOfDeepStates();
        undoLeavesTheRest();
        saveChangesItsSlotAlone();
        restoreBringsTheStateAlone();
        slotsStayAsTheyWere();
        fiveHundredTwelveCalls();
        Check.end();
    }

    private static HomeworkBarter lived() {
        HomeworkBarter x = Check.school("school 60 2 1 1;pupil 0 0 9 9;pupil 0 1 9 9;pupil 1 1 9 9 spy;pupil 5 5 9 9;",
            "work 0 sums 9;work 1 verses 9;lend 0 1 sums 3;swap 0 1 1 2;pass 1;work 3 verses 4;work 3 sums 4;"
                + "lend 3 2 verses 2;");
        x.swap(3, 3, 0, 0);
        x.confess(3);
        return x;
    }

    private static void dueWritten(String what, String text, HomeworkBarter x, int pupil) {
        Check.due("write, " + what, text.length(), x.write(pupil));
        Check.due("output, " + what, text, Check.output(x));
        Check.due("byte behind it, " + what, -1, x.output(text.length()));
    }

    // ---- promises 49 and 50

    /** "the makers of its sums, the eldest first, as letters [...], a slash, those of its verses likewise". */
    private static void outputsOfSatchels() {
        HomeworkBarter x = Check.school(APART);
        dueWritten("nothing", "/", x, 0);
        x.work(0, 0, 1);
        dueWritten("one sum", "a/", x, 0);
        x.work(3, 1, 1);
        dueWritten("one verse", "/d", x, 3);
        x.swap(0, 3, 1, 1);
        dueWritten("one that another made", "/d", x, 0);
        dueWritten("one that another made", "a/", x, 3);
        x.work(2, 0, 20);
        x.work(2, 1, 20);
        dueWritten("full satchels", "c".repeat(20) + "/" + "c".repeat(20), x, 2);
        dueWritten("empty satchels again", "/", x, 1);
        HomeworkBarter y = Check.school(APART, "work 0 sums 3;work 1 sums 2;work 3 sums 1;lend 1 3 sums 1;lend 0 3 sums 2;"
            + "lend 1 3 sums 1;");
        dueWritten("the eldest first", "dbaab/ bv2 av2", y, 3);
    }

    /** "for each debt of it, by rising numbers, a space, the letter [...], s or v for the SUBJECT, and the pieces". */
    private static void outputsOfDebts() {
        for (int pieces = 1; pieces <= 20; pieces++) {
            HomeworkBarter x = Check.school(APART, "work 0 sums 20;work 3 verses 20;lend 0 1 sums " + pieces + ";lend 3 2 verses "
                + pieces + ";");
            dueWritten("a debt of " + pieces + " verses", "a".repeat(pieces) + "/ av" + pieces, x, 1);
            dueWritten("a debt of " + pieces + " sums", "/" + "d".repeat(pieces) + " ds" + pieces, x, 2);
            dueWritten("what is owed to it", "a".repeat(20 - pieces) + "/", x, 0);
            for (int i = 0; i < 7; i++) x.pass(10);
            dueWritten("a debt of " + (70 + pieces), "a".repeat(pieces) + "/ av" + (70 + pieces), x, 1);
            for (int i = 0; i < 3; i++) x.pass(10);
            dueWritten("a debt of 99", "a".repeat(pieces) + "/ av99", x, 1);
        }
        HomeworkBarter y = Check.school(APART, "work 0 sums 9;work 0 verses 9;work 2 sums 9;work 3 sums 9;lend 3 1 sums 1;"
            + "lend 0 2 sums 1;lend 0 1 verses 2;lend 0 1 sums 3;lend 2 1 sums 4;work 1 verses 1;");
        dueWritten("several debts", "daaacccc/aab dv1 as2 av3 cv4", y, 1);
        y.payBack(1, 3, 1, 1);
        dueWritten("one of them is paid", "daaacccc/ab as2 av3 cv4", y, 1);
    }

    /** The most debts that a pupil can have: two to each of eleven others, of 99 pieces each. */
    private static void theLongestOutput() {
        StringBuilder setup = new StringBuilder("school 60 20 0 0;");
        for (int i = 0; i < 12; i++) setup.append("pupil ").append(i / 6 * 5).append(' ').append(i % 6).append(" 9 9;");
        HomeworkBarter x = Check.school(setup.toString());
        StringBuilder debts = new StringBuilder();
        for (int i = 0; i < 11; i++) {
            x.work(i, 0, 1);
            x.work(i, 1, 1);
            x.lend(i, 11, 1, 1);
            x.lend(i, 11, 0, 1);
            debts.append(' ').append((char) ('a' + i)).append("s99 ").append((char) ('a' + i)).append("v99");
        }
        for (int i = 0; i < 10; i++) x.pass(10);
        x.work(11, 0, 9);
        x.work(11, 1, 9);
        dueWritten("the longest", "abcdefghijklllllllll/abcdefghijklllllllll" + debts, x, 11);
    }

    /** "0 for the first byte"; "NONE if there is no such byte, or nothing was written". */
    private static void bytesOfTheOutput() {
        HomeworkBarter x = Check.school(APART, "work 3 sums 2;");
        for (int index : new int[] {-1, 0, 1, 255, 256, Integer.MIN_VALUE, Integer.MAX_VALUE}) {
            Check.due("output(" + index + ") of nothing", -1, x.output(index));
        }
        x.write(3);
        int[] bytes = {100, 100, 47, -1, -1};
        for (int index = 0; index < 5; index++) Check.due("output(" + index + ")", bytes[index], x.output(index));
        for (int index : new int[] {-1, -256, 256, Integer.MIN_VALUE, Integer.MAX_VALUE}) {
            Check.due("output(" + index + ")", -1, x.output(index));
        }
        x.write(0);
        Check.due("output(0) as it is replaced", 47, x.output(0));
        Check.due("output(1) as it is shorter", -1, x.output(1));
        Check.due("output(2) as it is shorter", -1, x.output(2));
    }

    /** "(other calls leave the output as it is)". */
    private static void otherCallsLeaveTheOutput() {
        HomeworkBarter x = lived();
        x.write(3);
        String written = Check.output(x);
        x.work(3, 0, 2);
        x.lend(3, 0, 0, 1);
        x.pass(1);
        x.undo();
        x.save(0);
        x.restore(0);
        Check.play(x, "work 3 sums 1;move 3 4 4;");
        Check.play(x, "work");
        Check.dueOutOfBounds("write of nobody", () -> x.write(4));
        Check.load(x, "school");
        Check.load(x, APART);
        Check.due("output behind other calls", written, Check.output(x));
    }

    private static void writeChangesTheOutputAlone() {
        for (int pupil = 0; pupil < 4; pupil++) {
            int one = pupil;
            Parts.dueSame("write(" + pupil + ")", EdgesKeepingTest::lived, x -> x.write(one), Parts.OUTPUT);
        }
        for (int no : new int[] {-1, 4, 12, Integer.MIN_VALUE, Integer.MAX_VALUE}) {
            Check.dueThrowAndNoChange("write(" + no + ")", IndexOutOfBoundsException.class, EdgesKeepingTest::lived,
                x -> x.write(no));
        }
        Check.dueNoChange("output", EdgesKeepingTest::lived, x -> {
            x.output(0);
            x.output(-1);
            x.output(999);
        });
    }

    // ---- promise 51

    /** "The latest 6 acts that were done can be undone". */
    private static void sixActs() {
        for (int acts = 0; acts <= 14; acts++) {
            HomeworkBarter x = new HomeworkBarter();
            for (int i = 0; i < acts; i++) x.pass(1);
            int undoable = Math.min(acts, 6);
            Check.due("acts that can be undone of " + acts, undoable, x.count(12));
            for (int left = undoable - 1; left >= 0; left--) {
                Check.due("undo of " + acts + " acts", left, x.undo());
                Check.due("acts that can be undone", left, x.count(12));
                Check.due("WEEK", acts - undoable + left, x.count(1));
            }
            Check.due("undo of none", -1, x.undo());
            Check.due("undo of none", -1, x.undo());
            Check.due("WEEK", acts - undoable, x.count(1));
        }
        for (int commands = 1; commands <= 25; commands++) {
            HomeworkBarter x = new HomeworkBarter();
            Check.play(x, "pass 1;".repeat(commands));
            Check.due("each command by itself", Math.min(commands, 6) - 1, x.undo());
            Check.due("WEEK", commands - 1, x.count(1));
        }
        HomeworkBarter one = new HomeworkBarter();
        one.pass(10);
        Check.due("ten weeks are one act", 0, one.undo());
        Check.due("WEEK", 0, one.count(1));
    }

    /** Between six acts: what is refused, what throws, and what only answers is none of the latest six. */
    private static void whatIsNoAct() {
        HomeworkBarter x = new HomeworkBarter();
        for (int week = 1; week <= 7; week++) {
            x.pass(1);
            x.swap(0, 0, 0, 0);
            x.confess(0);
            Check.dueOutOfBounds("work of nobody", () -> x.work(5, 0, 1));
            x.save(0);
            x.write(0);
            x.ifPassed(5, 0);
            x.freeIn(0);
            Check.play(x, "confess 0;");
            Check.play(x, "work 9 sums 1;");
            Check.play(x, "pass 1");
            Check.load(x, "school 1");
            Check.due("acts", Math.min(week, 6), x.count(12));
        }
        for (int left = 5; left >= 0; left--) {
            Check.due("undo", left, x.undo());
            Check.due("WEEK", left + 1, x.count(1));
        }
        Check.due("undo of none", -1, x.undo());
    }

    /** "an act that was undone does not count any more". */
    private static void undoneActsDoNotCount() {
        for (int undone = 1; undone <= 6; undone++) {
            for (int more = 0; more <= 7; more++) {
                HomeworkBarter x = new HomeworkBarter();
                for (int i = 0; i < 6; i++) x.pass(1);
                for (int i = 0; i < undone; i++) x.undo();
                for (int i = 0; i < more; i++) x.pass(10);
                int undoable = Math.min(6 - undone + more, 6);
                String what = undone + " undone, " + more + " more: ";
                Check.due(what + "acts", undoable, x.count(12));
                int week = 6 - undone + 10 * more;
                Check.due(what + "WEEK", week, x.count(1));
                for (int left = undoable - 1; left >= 0; left--) {
                    Check.due(what + "undo", left, x.undo());
                    week -= week > 6 - undone ? 10 : 1;
                    Check.due(what + "WEEK behind undo", week, x.count(1));
                }
                Check.due(what + "undo of none", -1, x.undo());
            }
        }
    }

    /** "the state is as it was before it": of each act, once and behind other acts. */
    private static void undoOfEachAct() {
        String setup = "school 60 3 1 1;pupil 0 0 9 9;pupil 0 1 9 9;pupil 1 1 9 9 spy;pupil 5 5 9 9;pupil 5 3 9 9;";
        String[] acts = {"work 0 sums 9;", "work 1 verses 9;", "lend 0 1 sums 3;", "swap 0 1 1 4;", "lend 1 0 sums 2;",
            "pay 1 0 verses 1;", "pay 1 0 verses 2;", "move 3 3 3;", "work 3 sums 7;", "lend 3 4 sums 2;", "confess 0;",
            "pass 1;", "work 4 verses 9;", "lend 4 3 verses 4;", "swap 3 4 3 2;", "pay 3 4 sums 1;", "pass 3;", "confess 2;"};
        StringBuilder ahead = new StringBuilder();
        for (String act : acts) {
            HomeworkBarter before = Check.school(setup, ahead.toString());
            HomeworkBarter x = Check.school(setup, ahead.toString());
            boolean isLast = act.equals("confess 2;");
            Check.due("play of " + act, isLast ? 0 : 1, Check.play(x, act));
            if (isLast) return;
            x.undo();
            Check.due("state behind undo of " + act, Check.state(before), Check.state(x));
            ahead.append(act);
        }
    }

    /** Satchels with pieces of several makers, and many debts, are brought back piece by piece. */
    private static void undoOfDeepStates() {
        Parts.dueSame("swap and undo", Fixtures::mixedSatchels, x -> {
            Check.due("swap", 0, x.swap(0, 3, 4, 3));
            x.undo();
        }, Parts.UNDO);
        Parts.dueSame("payBack and undo", Fixtures::mixedSatchels, x -> {
            Check.due("payBack", 0, x.payBack(x.debt(3, 0), x.debt(3, 1), x.debt(3, 2), x.debt(3, 3)));
            x.undo();
        }, Parts.UNDO);
        Parts.dueSame("pass and restore", Fixtures::mixedSatchels, x -> {
            x.pass(5);
            Check.due("payBack", 1, x.payBack(x.debt(3, 0), x.debt(3, 1), x.debt(3, 2), x.debt(3, 3) - 1));
            x.restore(1);
        }, Parts.UNDO);
        dueDebtsOfBothSubjects();
        HomeworkBarter thirty = Fixtures.thirtyDebts();
        thirty.save(0);
        for (int debt = 0; debt <= 20; debt += 4) {
            Check.due("payBack", 0, thirty.payBack(thirty.debt(debt, 0), thirty.debt(debt, 1), 1, 1));
        }
        Check.due("debts", 24, thirty.count(8));
        for (int i = 0; i < 6; i++) thirty.undo();
        dueThirtyDebts("undo", thirty);
        Check.load(thirty, APART);
        thirty.restore(0);
        dueThirtyDebts("restore", thirty);
    }

    /** As the first debt is paid, each place among the debts is taken by one of the other SUBJECT, debtor and creditor. */
    private static void dueDebtsOfBothSubjects() {
        String script = "work 0 sums 9;work 0 verses 9;work 1 sums 9;work 1 verses 9;lend 0 1 sums 1;lend 1 0 verses 2;"
            + "lend 0 1 sums 3;lend 1 3 sums 4;lend 0 2 verses 5;lend 1 2 sums 4;";
        String state = Check.state(Check.school(APART, script));
        HomeworkBarter x = Check.school(APART, script);
        Check.due("payBack", 0, x.payBack(1, 0, 1, 4));
        x.undo();
        Check.due("state behind undo of a payment", state, Check.state(x));
        HomeworkBarter y = Check.school(APART, script);
        y.save(0);
        y.payBack(1, 0, 1, 4);
        y.payBack(0, 1, 0, 2);
        y.restore(0);
        Check.due("state restored behind two payments", state, Check.state(y));
        HomeworkBarter z = Check.school(APART, script);
        int owed = z.ifPassed(1, 1);
        z.payBack(1, 0, 1, 4);
        Check.due("pieces owed a week later", owed - 5, z.ifPassed(1, 1));
    }

    private static void dueThirtyDebts(String what, HomeworkBarter x) {
        Check.due("debts behind " + what, 30, x.count(8));
        for (int debt = 0; debt < 30; debt++) {
            int lender = debt / 5;
            int other = debt % 5 + (debt % 5 >= lender ? 1 : 0);
            Check.due("who owes debt " + debt + " behind " + what, other, x.debt(debt, 0));
            Check.due("to whom, behind " + what, lender, x.debt(debt, 1));
            Check.due("SUBJECT behind " + what, 1, x.debt(debt, 2));
            Check.due("pieces behind " + what, 1, x.debt(debt, 3));
        }
    }

    /** The state does not hold "the text buffer, the latest error, the output, the counters of reasons [...]". */
    private static void undoLeavesTheRest() {
        Parts.dueSame("undo", EdgesKeepingTest::lived, HomeworkBarter::undo, Parts.STATE, Parts.UNDO);
        Parts.dueSame("seven times undo", EdgesKeepingTest::lived, x -> {
            for (int i = 0; i < 7; i++) x.undo();
        }, Parts.STATE, Parts.UNDO);
        Check.dueNoChange("undo of none", () -> Check.school(APART), HomeworkBarter::undo);
    }

    // ---- promises 52 and 53

    private static void saveChangesItsSlotAlone() {
        for (int slot = 0; slot < 2; slot++) {
            int one = slot;
            Parts.dueSame("save(" + slot + ")", EdgesKeepingTest::lived, x -> x.save(one), Parts.SLOTS);
        }
        HomeworkBarter x = new HomeworkBarter();
        x.save(1);
        Check.dueThrow("restore(0) as the slot 1 is saved alone", IllegalStateException.class, () -> x.restore(0));
        x.pass(1);
        x.save(0);
        x.pass(1);
        x.restore(1);
        Check.due("WEEK of the slot 1", 0, x.count(1));
        x.restore(0);
        Check.due("WEEK of the slot 0", 1, x.count(1));
        x.pass(2);
        x.save(0);
        x.restore(1);
        Check.due("WEEK of the slot 1, which is not replaced", 0, x.count(1));
        x.restore(0);
        Check.due("WEEK of the slot 0, which is replaced", 3, x.count(1));
        for (int slot : new int[] {-1, 2, 3, 256, Integer.MIN_VALUE, Integer.MAX_VALUE}) {
            dueIllegal("save(" + slot + ")", y -> y.save(slot));
            dueIllegal("restore(" + slot + ")", y -> y.restore(slot));
        }
    }

    private static void dueIllegal(String call, Consumer<HomeworkBarter> run) {
        Check.dueThrowAndNoChange(call, IllegalArgumentException.class, EdgesKeepingTest::lived, run);
    }

    /** "It stays saved; no act can be undone then." */
    private static void restoreBringsTheStateAlone() {
        Parts before = Parts.of(EdgesKeepingTest::lived, x -> { });
        Consumer<HomeworkBarter> acts = x -> {
            x.work(3, 0, 5);
            x.pass(2);
            x.restore(1);
        };
        Parts after = Parts.of(EdgesKeepingTest::lived, acts);
        Parts.dueSame("restore", before, after, Parts.UNDO);
        HomeworkBarter x = lived();
        Parts.fill(x);
        acts.accept(x);
        Check.due("acts behind restore", 0, x.count(12));
        Check.due("undo behind restore", -1, x.undo());
        x.pass(1);
        Check.due("the first act behind restore", 0, x.undo());
        Check.due("undo behind it", -1, x.undo());
    }

    /** A saved state is none of the acts that come behind it, whichever they are. */
    private static void slotsStayAsTheyWere() {
        String[] scripts = {"work 3 sums 9;", "swap 3 2 1 1;", "lend 3 2 sums 1;", "lend 3 2 sums 1;pay 2 3 sums 1;", "move 3 0 5;",
            "pass 10;", "work 3 sums 3;lend 3 2 sums 3;pass 2;move 3 2 2;"};
        String saved = Check.state(lived());
        for (String script : scripts) {
            HomeworkBarter x = lived();
            x.save(0);
            if (Check.play(x, script) < 1) Check.tell(script + " of a test is refused");
            if (Check.state(x).equals(saved)) Check.tell(script + " changes nothing");
            x.restore(0);
            Check.due("state behind " + script, saved, Check.state(x));
        }
        for (String script : scripts) {
            HomeworkBarter x = lived();
            x.save(0);
            x.pass(1);
            x.restore(0);
            Check.play(x, script);
            x.restore(0);
            Check.due("state restored twice, " + script, saved, Check.state(x));
        }
        Parts.dueSame("load and restore", EdgesKeepingTest::lived, x -> {
            Check.load(x, "school 10 1 9 9;pupil 5 5 1 1 spy;pupil 4 4 1 1;");
            x.restore(1);
        }, Parts.UNDO, Parts.TEXT, Parts.ERROR);
        HomeworkBarter other = lived();
        other.save(0);
        Check.load(other, "school 10 1 9 9;pupil 5 5 1 1 spy;pupil 4 4 1 1;");
        other.save(1);
        String small = Check.state(other);
        other.restore(0);
        Check.due("state of the larger school", saved, Check.state(other));
        other.restore(1);
        Check.due("state of the smaller school", small, Check.state(other));
    }

    // ---- "An object is used for at most 512 calls after it has been made"

    private static void fiveHundredTwelveCalls() {
        HomeworkBarter x = new HomeworkBarter();
        for (int call = 1; call <= 510; call++) {
            if (call % 5 == 0) Check.due("undo, call " + call, call == 5 ? 3 : 5, x.undo());
            else Check.due("move, call " + call, true, x.move(0, 4 + call % 2, call % 5) >= 0);
        }
        x.move(0, 2, 5);
        Check.due("the 512th call", 0, x.bench(2, 5));
        HomeworkBarter y = new HomeworkBarter();
        for (int call = 1; call <= 511; call++) Check.due("refused", -8, y.confess(0));
        Check.due("the 512th call", 511, y.refusals(8));
        HomeworkBarter z = Check.school(APART);
        int made = 0;
        for (int call = 0; call < 110; call++) {
            z.work(call % 4, 0, 20);
            made += 20;
            z.swap(call % 4, (call + 1) % 4, 0, 0);
            z.undo();
            z.undo();
            made -= 20;
        }
        Check.due("sums that were made and undone", made, z.tally(0));
    }
}
