/** Promises 49 to 53: output, undo, saved states. */
public final class KeepingTest {
    private static final String APART = "school 60 20 0 0;pupil 0 0 9 9;pupil 0 5 9 9;pupil 5 0 9 9;pupil 5 5 9 9;";

    public static void main(String[] args) {
        promise49();
        promise50();
        promise51();
        promise51SixActs();
        promise51EachAct();
        promises52And53();
        promise52Replaces();
        promise53Setups();
        Check.end();
    }

    private static void promise49() {
        HomeworkBarter x = Check.school(APART);
        Check.due("write(0) of nothing", 1, x.write(0));
        Check.due("output", "/", Check.output(x));
        Check.play(x, "work 0 sums 20;work 1 sums 12;work 2 verses 9;work 3 verses 3;lend 0 3 sums 2;lend 1 3 sums 10;"
            + "lend 2 3 verses 1;lend 2 0 verses 7;");
        Check.due("write(3)", 30, x.write(3));
        Check.due("makers, then debts by rising numbers", "aabbbbbbbbbb/dddc av2 bv10 cs1", Check.output(x));
        Check.due("write(0)", 30, x.write(0));
        Check.due("output is replaced", "aaaaaaaaaaaaaaaaaa/ccccccc cs7", Check.output(x));
        Check.due("write(2): what is owed to it is not written", 2, x.write(2));
        Check.due("output is shorter now", "/c", Check.output(x));
        for (int no : new int[] {-1, 4, Integer.MIN_VALUE, Integer.MAX_VALUE}) {
            Check.dueOutOfBounds("write(" + no + ")", () -> x.write(no));
        }
        Check.due("output behind an exception", "/c", Check.output(x));
        x.pass(10);
        x.write(3);
        Check.due("debts of more than nine", "aabbbbbbbbbb/dddc av12 bv20 cs11", Check.output(x));
        for (int i = 0; i < 9; i++) x.pass(10);
        x.write(3);
        Check.due("debts of 99", "aabbbbbbbbbb/dddc av99 bv99 cs99", Check.output(x));
        dueLongest();
    }

    /** Twelve pupils, full satchels, and a debt in each subject to each of the eleven others. */
    private static void dueLongest() {
        String setup = "school 60 20 0 0;";
        for (int i = 0; i < 12; i++) setup += "pupil " + i / 6 * 5 + " " + i % 6 + " 9 9;";
        HomeworkBarter x = Check.school(setup);
        String want = "";
        for (int i = 1; i < 12; i++) {
            x.work(i, 0, 1);
            x.work(i, 1, 1);
            Check.due("lend", 1, x.lend(i, 0, 0, 1));
            Check.due("lend", 1, x.lend(i, 0, 1, 1));
            want += " " + (char) ('a' + i) + "v99 " + (char) ('a' + i) + "s99";
        }
        for (int i = 0; i < 10; i++) x.pass(10);
        x.work(0, 0, 9);
        x.work(0, 1, 9);
        Check.due("write(0)", 41 + 22 * 4 + 22, x.write(0));
        Check.due("output", "bcdefghijklaaaaaaaaa/bcdefghijklaaaaaaaaa" + want, Check.output(x));
    }

    private static void promise50() {
        HomeworkBarter x = new HomeworkBarter();
        for (int index : new int[] {-1, 0, 1, Integer.MIN_VALUE, Integer.MAX_VALUE}) {
            Check.due("output(" + index + ") as nothing was written", -1, x.output(index));
        }
        x.work(0, 0, 2);
        Check.due("output(0) as nothing was written", -1, x.output(0));
        x.write(0);
        Check.due("output(0)", 'a', x.output(0));
        Check.due("output(1)", 'a', x.output(1));
        Check.due("output(2)", '/', x.output(2));
        Check.due("output(3)", -1, x.output(3));
        Check.due("output(-1)", -1, x.output(-1));
        Check.due("output(least)", -1, x.output(Integer.MIN_VALUE));
        Check.due("output(greatest)", -1, x.output(Integer.MAX_VALUE));
        x.save(0);
        x.work(0, 0, 2);
        x.undo();
        x.restore(0);
        Check.load(x, APART);
        Check.play(x, "work 1 sums 3;pass 1;");
        Check.due("other calls leave the output", "aa/", Check.output(x));
    }

    private static void promise51() {
        HomeworkBarter x = new HomeworkBarter();
        Check.due("undo() of nothing", -1, x.undo());
        String first = Check.state(x);
        x.work(0, 0, 6);
        String second = Check.state(x);
        x.work(1, 1, 20);
        x.work(1, 1, 20);
        Check.due("refused acts are none to undo", 1, x.undo());
        Check.due("the state ahead of the second act", second, Check.state(x));
        Check.due("counters of reasons stay", 1, x.refusals(2));
        Check.due("undo()", 0, x.undo());
        Check.due("the state ahead of the first act", first, Check.state(x));
        Check.due("undo() of nothing", -1, x.undo());
    }

    private static void promise51SixActs() {
        HomeworkBarter x = new HomeworkBarter();
        for (int act = 1; act <= 8; act++) {
            x.pass(1);
            Check.due("acts that can be undone", Math.min(act, 6), x.count(12));
        }
        Check.due("undo()", 5, x.undo());
        Check.due("undo()", 4, x.undo());
        Check.due("WEEK", 6, x.count(1));
        x.pass(2);
        Check.due("an act that was undone does not count", 5, x.count(12));
        Check.due("undo()", 4, x.undo());
        for (int left = 3; left >= 0; left--) {
            Check.due("undo()", left, x.undo());
            Check.due("WEEK", left + 2, x.count(1));
        }
        Check.due("undo() of no more than six", -1, x.undo());
        Check.due("WEEK", 2, x.count(1));
        for (int round = 0; round < 20; round++) {
            Check.play(x, "pass 1;pass 1;pass 1;");
            x.undo();
            Check.due("WEEK", 4, x.count(1));
            x.undo();
            Check.due("undo()", 0, x.undo());
            Check.due("WEEK", 2, x.count(1));
        }
        Check.play(x, "pass 1;pass 1;pass 1;pass 1;pass 1;pass 1;pass 1;");
        Check.due("each command by itself, six at most", 5, x.undo());
        Check.due("WEEK", 8, x.count(1));
        Check.load(x, "");
        Check.due("a load with an error leaves the acts", 4, x.undo());
        Check.load(x, APART);
        Check.due("load leaves none", -1, x.undo());
    }

    /** Behind each kind of act undo brings back all of the state. */
    private static void promise51EachAct() {
        String setup = "school 60 3 2 2;pupil 0 0 9 9;pupil 0 1 9 9;pupil 1 1 9 9 spy;pupil 3 3 9 9;";
        String ahead = "work 0 sums 9;work 1 verses 9;lend 0 1 sums 3;swap 0 1 1 2;";
        String[] acts = {"work 3 verses 4;", "swap 0 1 2 2;", "lend 1 0 verses 2;", "lend 0 3 sums 1;",
            "pay 1 0 verses 2;", "pay 1 0 verses 3;", "move 3 5 5;", "confess 0;", "pass 1;", "pass 5;"};
        for (String act : acts) {
            HomeworkBarter x = Check.school(setup, ahead);
            String before = Check.state(x);
            Check.due("play of " + act, 1, Check.play(x, act));
            if (before.equals(Check.state(x))) Check.tell(act + " changes nothing");
            Check.due("undo of " + act, 4, x.undo());
            Check.due("state behind undo of " + act, before, Check.state(x));
        }
    }

    private static HomeworkBarter bartered() {
        return Check.school("school 60 3 2 2;pupil 0 0 9 9;pupil 0 1 9 9;pupil 1 1 9 9 spy;",
            "work 0 sums 9;work 1 verses 9;lend 0 1 sums 3;");
    }

    private static void promises52And53() {
        HomeworkBarter x = bartered();
        String first = Check.state(x);
        x.save(0);
        Check.due("save is no act", 3, x.count(12));
        Check.dueThrow("restore(1)", IllegalStateException.class, () -> x.restore(1));
        Check.due("acts that can be undone behind it", 3, x.count(12));
        x.swap(0, 1, 1, 1);
        x.pass(1);
        x.confess(2);
        x.restore(0);
        Check.due("state of slot 0", first, Check.state(x));
        Check.due("no act can be undone", -1, x.undo());
        Check.due("counters of reasons stay", 1, x.refusals(8));
        x.pass(3);
        x.restore(0);
        Check.due("it stays saved", first, Check.state(x));
    }

    private static void promise52Replaces() {
        HomeworkBarter x = bartered();
        x.save(0);
        x.swap(0, 1, 1, 1);
        x.pass(1);
        x.save(1);
        String second = Check.state(x);
        x.restore(0);
        x.restore(1);
        Check.due("state of slot 1", second, Check.state(x));
        x.save(0);
        x.pass(1);
        x.restore(0);
        x.undo();
        Check.due("a state that is saved is replaced", second, Check.state(x));
    }

    private static void promise53Setups() {
        HomeworkBarter x = new HomeworkBarter();
        String first = Check.state(x);
        x.save(1);
        Check.load(x, APART);
        Check.due("pupils", 4, x.count(0));
        x.restore(1);
        Check.due("a state of another setup", first, Check.state(x));
        Check.due("load() of an empty text", -1, x.load());
        x.truncateText(0);
        x.appendText('p' << 24 | 'a' << 16 | 's' << 8 | 's');
        x.restore(1);
        x.appendText(' ' << 24 | '1' << 16 | ';' << 8 | ' ');
        Check.due("the latest error is not of the state", 1, x.errorCode());
        Check.due("the text is not of the state", 1, x.play());
        for (int slot : new int[] {-1, 2, Integer.MIN_VALUE, Integer.MAX_VALUE}) {
            Check.dueThrowAndNoChange("save(" + slot + ")", IllegalArgumentException.class, HomeworkBarter::new,
                y -> y.save(slot));
            Check.dueThrowAndNoChange("restore(" + slot + ")", IllegalArgumentException.class, HomeworkBarter::new,
                y -> y.restore(slot));
        }
        Check.dueThrowAndNoChange("restore(0)", IllegalStateException.class,
            () -> Check.school(APART, "work 0 sums 3;"), y -> y.restore(0));
    }
}
