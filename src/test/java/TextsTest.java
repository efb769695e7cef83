/** Promises 1 to 7: a new object, the text buffer, setups and scripts, errors. */
public final class TextsTest {
    private static final String FIRST =
        "school 30 4 2 1; pupil 0 0 8 3; pupil 0 1 2 9; pupil 1 0 5 5 spy; pupil 3 3 7 7; pupil 3 4 1 6 spy;";
    private static final String TWO = "school 10 1 0 0;pupil 0 0 1 1;pupil 5 5 9 9;";

    public static void main(String[] args) {
        promise1();
        promise2();
        promise3();
        promise4();
        promise4LeavesNothing();
        promise4TwelvePupils();
        promise4Ranges();
        promise4Order();
        promise5();
        promise5Grammar();
        promise5Stops();
        promises6And7();
        Check.end();
    }

    private static void promise1() {
        HomeworkBarter x = new HomeworkBarter();
        int[][] pupils = {{0, 0, 8, 3, 0}, {0, 1, 2, 9, 0}, {1, 0, 5, 5, 1}, {3, 3, 7, 7, 0}, {3, 4, 1, 6, 1}};
        int[] counts = {5, 0, 30, 4, 2, 1, 0, 0, 0, 0, 0, 2, 0};
        for (int what = 0; what < 13; what++) Check.due("new: count(" + what + ")", counts[what], x.count(what));
        for (int what = 0; what < 10; what++) Check.due("new: tally(" + what + ")", 0, x.tally(what));
        for (int i = 0; i < 5; i++) {
            for (int what = 0; what < 5; what++) {
                Check.due("new: pupil(" + i + ", " + what + ")", pupils[i][what], x.pupil(i, what));
            }
            Check.due("new: STRENGTH", 30, x.pupil(i, 5));
            for (int what = 6; what < 14; what++) Check.due("new: pupil(" + i + ", " + what + ")", 0, x.pupil(i, what));
        }
        Check.due("new: as with the text", Check.state(Check.school(FIRST)), Check.state(x));
        Check.due("new: undo()", -1, x.undo());
        Check.due("new: errorCode()", 0, x.errorCode());
        Check.due("new: errorPosition()", -1, x.errorPosition());
        Check.due("new: output(0)", -1, x.output(0));
        Check.due("new: refusals", "0 0 0 0 0 0 0 0 0 0 ", Check.refusals(x));
        for (int slot = 0; slot < 2; slot++) {
            int one = slot;
            Check.dueThrow("new: restore(" + slot + ")", IllegalStateException.class, () -> x.restore(one));
        }
        Check.due("new: the text is empty", 4, x.appendText(0));
        Check.due("NONE", -1, HomeworkBarter.NONE);
    }

    private static void promise2() {
        HomeworkBarter x = new HomeworkBarter();
        Check.due("appendText, highest byte first", 4, x.appendText('p' << 24 | 'a' << 16 | 's' << 8 | 's'));
        Check.due("appendText, behind the others", 8, x.appendText(' ' << 24 | '2' << 16 | ';' << 8 | '\n'));
        Check.due("play of what was appended", 1, x.play());
        Check.due("WEEK", 2, x.count(1));

        HomeworkBarter y = new HomeworkBarter();
        for (int i = 4; i <= 500; i += 4) Check.due("appendText to " + i, i, y.appendText(-1));
        Check.dueThrow("appendText to 504", IllegalStateException.class, () -> y.appendText(0));
        Check.due("truncateText behind it", 500, y.truncateText(500));
        Check.due("truncateText", 497, y.truncateText(497));
        Check.dueThrow("appendText to 501", IllegalStateException.class, () -> y.appendText(0));
        Check.due("truncateText", 496, y.truncateText(496));
        Check.due("appendText to 500 again", 500, y.appendText(0));
    }

    private static void promise3() {
        HomeworkBarter x = new HomeworkBarter();
        Check.due("truncateText(0) of nothing", 0, x.truncateText(0));
        Check.dueIllegal("truncateText(1) of nothing", () -> x.truncateText(1));
        Check.putText(x, "pass 1;pass 2;");
        Check.dueIllegal("truncateText(-1)", () -> x.truncateText(-1));
        Check.dueIllegal("truncateText(15)", () -> x.truncateText(15));
        Check.dueIllegal("truncateText(greatest)", () -> x.truncateText(Integer.MAX_VALUE));
        Check.due("truncateText(14), the present length", 14, x.truncateText(14));
        Check.due("truncateText(7)", 7, x.truncateText(7));
        Check.due("play of the first bytes", 1, x.play());
        Check.due("WEEK", 1, x.count(1));
        Check.due("truncateText cuts the end, not the start", 4, x.appendText('p' << 24 | 'a' << 16 | 's' << 8 | 's'));
    }

    private static void promise4() {
        HomeworkBarter x = new HomeworkBarter();
        x.work(0, 0, 6);
        x.lend(0, 1, 0, 2);
        x.pass(3);
        x.save(1);
        x.work(0, 0, 20);
        x.write(0);
        Check.putText(x, "school 45 7 3 9; pupil 5 4 9 1 spy; pupil 0 2 1 9;pupil 5 5 3 4;");
        Check.due("load", 3, x.load());
        int[] counts = {3, 0, 45, 7, 3, 9, 0, 0, 0, 0, 0, 1, 0};
        for (int what = 0; what < 13; what++) Check.due("load: count(" + what + ")", counts[what], x.count(what));
        for (int what = 0; what < 10; what++) Check.due("load: tally(" + what + ")", 0, x.tally(what));
        int[][] pupils = {{5, 4, 9, 1, 1, 45}, {0, 2, 1, 9, 0, 45}, {5, 5, 3, 4, 0, 45}};
        for (int i = 0; i < 3; i++) {
            for (int what = 0; what < 14; what++) {
                Check.due("load: pupil(" + i + ", " + what + ")", what < 6 ? pupils[i][what] : 0, x.pupil(i, what));
            }
        }
        Check.due("load: undo", -1, x.undo());
        Check.due("load: counters of reasons stay", 1, x.refusals(2));
        Check.due("load: output stays", '/', x.output(0));
        Check.due("load: the text is empty", 4, x.appendText(0));
        x.restore(1);
        Check.due("load: saved states stay", 3, x.count(1));

        HomeworkBarter y = new HomeworkBarter();
        y.work(0, 0, 3);
        String before = Check.state(y);
        Check.due("load of what is wrong", -1, Check.load(y, "school 45 7 3 9; pupil 5 4 9 1 spy; pupil 0 2 1 10;"));
        Check.due("state behind it", before, Check.state(y));
        Check.due("the text behind it", 4, y.appendText(0));
        Check.due("undo behind it", 0, y.undo());
    }

    /** Nothing of what was before, or of what would have been, is left in a school that load brings. */
    private static void promise4LeavesNothing() {
        String watched = "school 60 1 1 0;pupil 0 0 9 9;pupil 0 1 9 9;pupil 1 1 9 9 spy;pupil 5 5 9 9;";
        String fresh = Check.state(Check.school(watched));
        HomeworkBarter x = Check.school(watched, "work 0 sums 9;work 3 verses 9;lend 3 2 verses 2;swap 0 1 2 0;"
            + "lend 0 2 sums 3;swap 0 1 0 0;swap 0 1 0 0;swap 0 1 0 0;");
        x.ifPassed(1, 0);
        Check.due("load behind what would be", 4, Check.load(x, watched));
        Check.due("state", fresh, Check.state(x));
        Check.play(x, "swap 0 1 0 0;swap 0 1 0 0;swap 0 1 0 0;swap 0 1 0 0;swap 0 1 0 0;swap 0 1 0 0;pass 1;");
        Check.due("DETENTION", 2, x.pupil(0, 8));
        x.ifPassed(0, 0);
        Check.due("load behind a detention", 4, Check.load(x, watched));
        Check.due("state", fresh, Check.state(x));
        Check.load(x, "school 60 1 1 0;pupil 5 5 9 9;pupil 4 4 9 9;pupil 6 4 9 9;");
        Check.due("state behind a load with an error", fresh, Check.state(x));
    }

    /** A school of twelve is a school like any other. */
    private static void promise4TwelvePupils() {
        String setup = "school 20 3 1 1;";
        for (int i = 0; i < 12; i++) setup += "pupil " + i / 6 + " " + i % 6 + " 9 9" + (i == 11 ? " spy;" : ";");
        HomeworkBarter x = Check.school(setup, "work 11 sums 3;work 11 verses 3;lend 11 10 sums 2;lend 10 11 sums 1;");
        Check.due("pupils", 12, x.count(0));
        Check.due("sums", 3, x.count(6));
        Check.due("spies", 1, x.count(11));
        Check.due("detained", 0, x.count(10));
        Check.due("gap", 0, x.gap());
        Check.due("bench(1, 5)", 11, x.bench(1, 5));
        Check.due("ranked(0, 11)", 11, x.ranked(0, 11));
        Check.due("ranked(0, 12)", -1, x.ranked(0, 12));
        Check.due("most(4)", 11, x.most(4));
        Check.due("nearTo(11, 2)", 10, x.nearTo(11, 2));
        Check.due("nearTo(11, 3)", -1, x.nearTo(11, 3));
        Check.due("swap(9, 10, 0, 0) that 11 sees", 1, x.swap(9, 10, 0, 0));
        Check.due("witness(9, 0)", 11, x.witness(9, 0));
        x.write(10);
        Check.due("output", "l/ lv2", Check.output(x));
        Check.due("pass(10)", 0, x.pass(10));
        Check.due("play with the pupil 11", 1, Check.play(x, "move 11 5 5;"));
        Check.dueOutOfBounds("pupil(12, 0)", () -> x.pupil(12, 0));
    }

    /** The least and the greatest number of each place, and those next to them. */
    private static void promise4Ranges() {
        String[] wrong = {
            "school 9 1 0 0;", "school 61 1 0 0;", "school 10 0 0 0;", "school 10 21 0 0;", "school 10 1 10 0;",
            "school 10 1 0 10;", "school 10 1 0 0;pupil 6 0 1 1;", "school 10 1 0 0;pupil 0 6 1 1;",
            "school 10 1 0 0;pupil 0 0 0 1;", "school 10 1 0 0;pupil 0 0 10 1;", "school 10 1 0 0;pupil 0 0 1 0;",
            "school 10 1 0 0;pupil 0 0 1 10;", "school 99999999999999999999 1 0 0;", "school 4294967306 1 0 0;",
            "school 10 1 0 0;pupil 4294967296 0 1 1;", "school 18446744073709551626 1 0 0;"};
        int[] at = {7, 7, 10, 10, 12, 14, 22, 24, 26, 26, 28, 28, 7, 7, 22, 7};
        for (int i = 0; i < wrong.length; i++) dueWrong(wrong[i], 2, at[i]);
        dueRight("school 10 1 0 0;pupil 0 0 1 1;pupil 5 5 9 9;", 2);
        dueRight("school 60 20 9 9;pupil 0 5 9 9;pupil 5 0 1 1;", 2);
        HomeworkBarter x = Check.school("school 000000000000000000060 01 00 09;pupil 00 05 09 01;pupil 1 1 1 1;");
        Check.due("WORK with zeros ahead", 60, x.count(2));
        Check.due("DUE of verses with zeros ahead", 9, x.count(5));
        Check.due("SEAT with zeros ahead", 5, x.pupil(0, 1));
    }

    private static void promise4Order() {
        dueWrong("", 1, 0);
        dueWrong("  \n ", 1, 4);
        dueWrong("pupil 0 0 1 1;", 1, 0);
        dueWrong("schools 10 1 0 0;", 1, 0);
        dueWrong("schoo", 1, 0);
        dueWrong("School 10 1 0 0;", 1, 0);
        dueWrong("school", 1, 6);
        dueWrong("school 10 1 0;", 1, 13);
        dueWrong("school 10 1 0 0 0;", 1, 16);
        dueWrong("school 10 1 0 0", 1, 15);
        dueWrong("school 10 1 0 0;  ", 1, 18);
        dueWrong("school 10 1 0 0;;", 1, 16);
        dueWrong("school 10,1 0 0;", 1, 9);
        dueWrong("school\t10 1 0 0;", 1, 6);
        dueWrong("school 10\r\n1 0 0;", 1, 9);
        dueWrong("school -10 1 0 0;", 1, 7);
        dueWrong("school 61- 1 0 0;", 2, 7);
        dueWrong("school x61 1 0 0;", 1, 7);
        dueWrong("school 10 1 0 0;pupil 0 0 1 1;", 1, 30);
        dueWrong("school 10 1 0 0;pupil 0 0 1 1;pupil 0 1 1 1", 1, 43);
        dueWrong("school 10 1 0 0;pupil 0 0 1 1;pupil 0 1 1 1 spies;", 1, 44);
        dueWrong("school 10 1 0 0;pupil 0 0 1 1;pupil 0 1 1 1 spy spy;", 1, 48);
        dueWrong("school 10 1 0 0;pupil 0 0 1 1 spy", 1, 33);
        dueWrong("school 10 1 0 0;pupil 0 0 1 1;pupil 0 0 1 1;", 3, 38);
        dueWrong("school 10 1 0 0;pupil 0 0 1 1;pupil 0 0 0 1;", 3, 38);
        dueWrong("school 10 1 0 0;pupil 0 0 1 1;pupil 0 0", 3, 38);
        dueWrong("school 10 1 0 0;pupil 0 0 1 1;pupil 0 6 1 1;", 2, 38);
        dueWrong(TWO + "x", 1, 44);
        dueWrong(TWO + ";", 1, 44);
        dueWrong(TWO + "spy;", 1, 44);
        dueWrong(TWO + "pupil 5 5 1 1;", 3, 52);
        dueWrong(TWO + "\0", 1, 44);
        dueWrong(TWO + (char) 233, 1, 44);
        dueRight(TWO + "  \n", 2);
        dueRight("\n\n school10 1 0 0;pupil0 0 1 1spy;\npupil 5 5 9 9 spy ;", 2);
        String twelve = "school 10 1 0 0;";
        for (int i = 0; i < 12; i++) twelve += "pupil " + i / 6 + " " + i % 6 + " 1 1;";
        dueRight(twelve, 12);
        dueWrong(twelve + " pupil 5 5 1 1;", 4, twelve.length() + 1);
        dueWrong(twelve + "pupil", 4, twelve.length());
        dueWrong(twelve + "pupils", 1, twelve.length());
        dueWrong(twelve + ";", 1, twelve.length());
        dueWrong(twelve + "7", 1, twelve.length());
    }

    private static void dueRight(String setup, int pupils) {
        HomeworkBarter x = new HomeworkBarter();
        Check.due("load of " + setup, pupils, Check.load(x, setup));
        Check.due("errorCode of " + setup, 0, x.errorCode());
        Check.due("errorPosition of " + setup, -1, x.errorPosition());
    }

    private static void dueWrong(String setup, int code, int position) {
        HomeworkBarter x = new HomeworkBarter();
        Check.due("load of " + setup, -1, Check.load(x, setup));
        Check.due("errorCode of " + setup, code, x.errorCode());
        Check.due("errorPosition of " + setup, position, x.errorPosition());
        Check.due("pupils after " + setup, 5, x.count(0));
    }

    private static void promise5() {
        HomeworkBarter x = new HomeworkBarter();
        HomeworkBarter y = new HomeworkBarter();
        Check.due("play", 7, Check.play(x, "work 0 sums 6;work 1 verses 8;lend 0 1 sums 3;pay 1 0 verses 2;"
            + "swap 0 1 1 3;move 3 5 5;confess 0;"));
        y.work(0, 0, 6);
        y.work(1, 1, 8);
        y.lend(0, 1, 0, 3);
        y.payBack(1, 0, 1, 2);
        y.swap(0, 1, 1, 3);
        y.move(3, 5, 5);
        y.confess(0);
        Check.due("play does what the methods do", Check.state(y), Check.state(x));
        Check.due("each command is an act", 6, x.count(12));
        Check.due("the latest command is undone by itself", 5, x.undo());
        Check.due("MARKS ahead of confess", 0, x.pupil(0, 7));
        Check.due("play of pass", 1, Check.play(x, "pass 10;"));
        Check.due("WEEK", 10, x.count(1));
        Check.due("the text is empty", 0, x.play());
        Check.due("play of blanks", 0, Check.play(x, " \n \n"));

        HomeworkBarter z = new HomeworkBarter();
        String before = Check.state(z);
        Check.due("play of what is wrong", -1, Check.play(z, "work 0 sums 6;pass 11;"));
        Check.due("state behind it", before, Check.state(z));
        Check.due("acts behind it", 0, z.count(12));
        Check.due("the text behind it", 0, z.play());
    }

    private static void promise5Grammar() {
        dueWrongScript("work 12 sums 1;", 2, 5);
        dueWrongScript("work 0 sums 0;", 2, 12);
        dueWrongScript("work 0 sums 21;", 2, 12);
        dueWrongScript("work 0 0 1;", 1, 7);
        dueWrongScript("work 0 sum 1;", 1, 7);
        dueWrongScript("work 0 verse 1;", 1, 7);
        dueWrongScript("work 0 sums;", 1, 11);
        dueWrongScript("work 0 sums 1", 1, 13);
        dueWrongScript("work 0 sums 1;;", 1, 14);
        dueWrongScript("swap 0 12 0 0;", 2, 7);
        dueWrongScript("swap 0 1 21 0;", 2, 9);
        dueWrongScript("swap 0 1 0 21;", 2, 11);
        dueWrongScript("swap 0 1 sums 0;", 1, 9);
        dueWrongScript("lend 12 0 sums 1;", 2, 5);
        dueWrongScript("lend 0 12 sums 1;", 2, 7);
        dueWrongScript("lend 0 1 1 1;", 1, 9);
        dueWrongScript("lend 0 1 sums 0;", 2, 14);
        dueWrongScript("lend 0 1 sums 21;", 2, 14);
        dueWrongScript("pay 0 1 verses 0;", 2, 15);
        dueWrongScript("pay 0 1 verses 21;", 2, 15);
        dueWrongScript("payback 0 1 verses 1;", 1, 0);
        dueWrongScript("move 0 6 0;", 2, 7);
        dueWrongScript("move 0 0 6;", 2, 9);
        dueWrongScript("move 12 0 0;", 2, 5);
        dueWrongScript("confess 12;", 2, 8);
        dueWrongScript("confess;", 1, 7);
        dueWrongScript("confess 1 1;", 1, 10);
        dueWrongScript("pass 0;", 2, 5);
        dueWrongScript("pass 11;", 2, 5);
        dueWrongScript("pass 4294967297;", 2, 5);
        dueWrongScript("pass", 1, 4);
        dueWrongScript("pass 1; Pass 1;", 1, 8);
        dueWrongScript("school 1;", 1, 0);
        dueWrongScript("7;", 1, 0);
        HomeworkBarter x = new HomeworkBarter();
        Check.due("blanks where none are needed", 2, Check.play(x, "\n work0sums1;work\n1verses 020 ;"));
        Check.due("its pieces", 20, x.pupil(1, 10));
        String many = "";
        for (int i = 0; i < 25; i++) many += "pass 1;";
        Check.due("25 commands", 25, Check.play(x, many));
        Check.due("WEEK", 25, x.count(1));
        dueWrongScript(many + " pass 1;", 4, 176);
        dueWrongScript(many + "work", 4, 175);
        dueWrongScript(many + "pas 1;", 1, 175);
        dueWrongScript(many + ";", 1, 175);
    }

    private static void dueWrongScript(String script, int code, int position) {
        HomeworkBarter x = new HomeworkBarter();
        Check.due("play of " + script, -1, Check.play(x, script));
        Check.due("errorCode of " + script, code, x.errorCode());
        Check.due("errorPosition of " + script, position, x.errorPosition());
        Check.due("acts after " + script, 0, x.count(12));
        Check.due("refusals after " + script, "0 0 0 0 0 0 0 0 0 0 ", Check.refusals(x));
    }

    private static void promise5Stops() {
        HomeworkBarter x = new HomeworkBarter();
        Check.due("stops behind a refusal", 1, Check.play(x, "pass 1;confess 0;pass 1;"));
        Check.due("WEEK", 1, x.count(1));
        Check.due("the refusal is counted", 1, x.refusals(8));
        String[] unknown = {"work 5 sums 1;", "swap 5 0 0 0;", "swap 0 5 0 0;", "lend 5 0 sums 1;", "lend 0 11 sums 1;",
            "pay 5 0 sums 1;", "pay 0 5 sums 1;", "move 5 5 5;", "confess 5;", "swap 5 5 0 0;", "confess 11;"};
        String refusals = Check.refusals(x);
        for (String command : unknown) {
            Check.due("stops at " + command, 0, Check.play(x, command + "pass 1;"));
            Check.due("errorCode of " + command, 0, x.errorCode());
        }
        Check.due("WEEK", 1, x.count(1));
        Check.due("an exception is no refusal", refusals, Check.refusals(x));
        Check.due("commands with a number for a pupil that is there", 2, Check.play(x, "work 4 sums 1;move 4 0 2;"));
    }

    private static void promises6And7() {
        HomeworkBarter x = new HomeworkBarter();
        Check.load(x, "school 9");
        Check.due("errorCode", 2, x.errorCode());
        Check.due("errorPosition", 7, x.errorPosition());
        x.appendText(0);
        x.truncateText(0);
        x.work(0, 0, 1);
        x.undo();
        Check.due("errorCode of the latest load", 2, x.errorCode());
        Check.due("errorPosition of the latest load", 7, x.errorPosition());
        Check.play(x, "pass 1");
        Check.due("errorCode of the latest play", 1, x.errorCode());
        Check.due("errorPosition of the latest play", 6, x.errorPosition());
        Check.play(x, "confess 0;");
        Check.due("errorCode without an error, though refused", 0, x.errorCode());
        Check.due("errorPosition without an error", -1, x.errorPosition());
        Check.play(x, "pas 1;");
        Check.load(x, TWO);
        Check.due("errorCode after a load without an error", 0, x.errorCode());
        Check.due("errorPosition after a load without an error", -1, x.errorPosition());
    }
}
