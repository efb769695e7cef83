import java.util.ArrayList;
import java.util.List;
import java.util.function.ToIntFunction;

/** The boundary cases of texts, sentence by sentence: the buffer, tokens, setups, scripts, errors; promises 1 to 7. */
public final class EdgesTextsTest {
    private static final String FIRST =
        "school 30 4 2 1; pupil 0 0 8 3; pupil 0 1 2 9; pupil 1 0 5 5 spy; pupil 3 3 7 7; pupil 3 4 1 6 spy;";
    private static final String TWO = "pupil 4 4 9 9;pupil 5 5 9 9;";
    private static final String WIDE = "school 60 20 0 0;" + TWO;
    private static final String[] ZEROS = {"0", "000", "0".repeat(300)};
    /** What a number becomes that wraps around in 32 or 64 bits, or in the last digits that fit into them. */
    private static final String[] AHEAD_OF_WRAPPED = {"1" + "0".repeat(34), "1" + "0".repeat(66), "1" + "0".repeat(300)};

    public static void main(String[] args) {
        aNewObject();
        fiveHundredBytes();
        theHighestByteFirst();
        cuttingTheText();
        blanksAndOtherBytes();
        bytesNextToTokens();
        wordsAsAWhole();
        numbersOfSetups();
        numbersOfScripts();
        eachTokenOfASetup();
        eachTokenOfAScript();
        twoToTwelvePupils();
        atMost25Commands();
        takenSeats();
        theLeastOfSeveralErrors();
        theFirstWrongToken();
        loadReplacesTheState();
        loadWithAnError();
        playWithAnError();
        playStops();
        commandsAreTheMethods();
        theLatestError();
        Check.end();
    }

    // ---- what is due of a text

    private static void dueSetup(String text, int pupils) {
        HomeworkBarter x = new HomeworkBarter();
        Check.due("load of " + text, pupils, Check.load(x, text));
        dueError(x, text, 0, -1);
        Check.due("pupils of " + text, pupils, x.count(0));
    }

    private static void dueWrongSetup(String text, int code, int position) {
        HomeworkBarter x = new HomeworkBarter();
        Check.due("load of " + text, -1, Check.load(x, text));
        dueError(x, text, code, position);
        Check.due("pupils behind " + text, 5, x.count(0));
    }

    private static void dueScript(String text, int done) {
        HomeworkBarter x = Check.school(WIDE);
        Check.due("play of " + text, done, Check.play(x, text));
        dueError(x, text, 0, -1);
    }

    private static void dueWrongScript(String text, int code, int position) {
        HomeworkBarter x = Check.school(WIDE);
        Check.due("play of " + text, -1, Check.play(x, text));
        dueError(x, text, code, position);
        Check.due("acts behind " + text, 0, x.count(12));
        Check.due("WEEK behind " + text, 0, x.count(1));
    }

    private static void dueWrong(boolean isSetup, String text, int code, int position) {
        if (isSetup) dueWrongSetup(text, code, position);
        else dueWrongScript(text, code, position);
    }

    private static void dueError(HomeworkBarter x, String text, int code, int position) {
        Check.due("errorCode of " + text, code, x.errorCode());
        Check.due("errorPosition of " + text, position, x.errorPosition());
        Check.due("length of the text behind " + text, 4, x.appendText(0));
    }

    // ---- promises 1 to 3

    private static void aNewObject() {
        Parts.dueSame("the constructor", Parts.of(() -> Check.school(FIRST), x -> { }),
            Parts.of(HomeworkBarter::new, x -> { }));
        HomeworkBarter x = new HomeworkBarter();
        Check.due("empty text", 0, x.truncateText(0));
        Check.dueIllegal("one byte of an empty text", () -> x.truncateText(1));
        for (int pupil = 0; pupil < 5; pupil++) {
            Check.due("sums of " + pupil, -1, x.piece(pupil, 0, 0));
            Check.due("verses of " + pupil, -1, x.piece(pupil, 1, 0));
        }
        Check.due("acts to undo", 0, x.count(12));
        Check.due("undo", -1, x.undo());
        Check.dueThrow("slot 0", IllegalStateException.class, () -> x.restore(0));
        Check.dueThrow("slot 1", IllegalStateException.class, () -> x.restore(1));
        Check.due("an empty script", 0, x.play());
        Check.due("an empty setup", -1, x.load());
        Check.due("NONE", -1, HomeworkBarter.NONE);
    }

    /** "a text buffer of at most 500 bytes"; "if the text would be longer than 500 bytes". */
    private static void fiveHundredBytes() {
        for (int length = 490; length <= 500; length++) dueAppended(length);
        Parts.dueSame("appendText to 502", EdgesTextsTest::lived, x -> {
            Check.putText(x, "pass 1;" + "\n".repeat(491));
            Check.dueThrow("appendText to 502", IllegalStateException.class, () -> x.appendText('p' << 24));
            Check.putText(x, "pass 2;pass 1;pass");
        });
        String last = "pupil 0 0 1 1;pupil 5 5 1 1;";
        dueSetup("school 10 1 0 0;" + " ".repeat(484 - last.length()) + last, 2);
        dueSetup("school 10 1 0 0;" + last + " ".repeat(484 - last.length()), 2);
        dueScript("pass 1;" + "\n".repeat(486) + "pass 1;", 2);
        dueWrongSetup(" ".repeat(500), 1, 500);
        dueWrongScript(" ".repeat(499) + "?", 1, 499);
        dueWrongScript("pass 1;" + " ".repeat(487) + "pass 1", 1, 500);
    }

    private static void dueAppended(int length) {
        HomeworkBarter x = new HomeworkBarter();
        for (int i = 1; i <= 125; i++) Check.due("appendText", 4 * i, x.appendText('\n'));
        Check.due("truncateText(" + length + ")", length, x.truncateText(length));
        String call = "appendText behind " + length + " bytes";
        if (length <= 496) {
            Check.due(call, length + 4, x.appendText(0));
            return;
        }
        Check.dueThrow(call, IllegalStateException.class, () -> x.appendText(0));
        Check.dueIllegal("nothing was appended", () -> x.truncateText(length + 1));
        Check.due("length behind the exception", length, x.truncateText(length));
    }

    /** "Appends four bytes to the text buffer, the highest byte of the parameter first." */
    private static void theHighestByteFirst() {
        for (int place = 0; place < 4; place++) {
            for (int sign : new int[] {0, 127, 128, 200, 255, 'x', ';'}) {
                HomeworkBarter x = new HomeworkBarter();
                int blanks = ' ' << 24 | '\n' << 16 | ' ' << 8 | '\n';
                int shift = 24 - 8 * place;
                x.appendText(blanks & ~(255 << shift) | sign << shift);
                x.appendText(blanks);
                Check.due("play with the byte " + sign + " at " + place, -1, x.play());
                Check.due("its place", place, x.errorPosition());
            }
        }
        HomeworkBarter x = new HomeworkBarter();
        Check.due("appendText", 4, x.appendText(0x70617373));
        Check.due("appendText", 8, x.appendText(0x20313b0a));
        Check.due("play of \"pass 1;\"", 1, x.play());
    }

    /** "length: the new length, 0 to the present length". */
    private static void cuttingTheText() {
        for (int length : new int[] {-1, 19, 20, 500, 501, Integer.MIN_VALUE, Integer.MAX_VALUE}) {
            Check.dueThrowAndNoChange("truncateText(" + length + ") of 18 bytes", IllegalArgumentException.class,
                HomeworkBarter::new, x -> x.truncateText(length));
        }
        int[] wrongAt = {-1, 0, 0, 0, 4, 5, 6, -1, 7, 7, 7, 11, 12, 13, -1};
        for (int length = 0; length <= 14; length++) {
            HomeworkBarter x = new HomeworkBarter();
            Check.putText(x, "pass 1;pass 2;");
            Check.due("truncateText(" + length + ")", length, x.truncateText(length));
            Check.due("play of " + length + " bytes", wrongAt[length] < 0 ? length / 7 : -1, x.play());
            Check.due("errorPosition of " + length + " bytes", wrongAt[length], x.errorPosition());
        }
        Parts.dueSame("truncateText(3)", HomeworkBarter::new, x -> x.truncateText(3), Parts.TEXT);
        Parts.dueSame("truncateText of the present length", HomeworkBarter::new, x -> x.truncateText(18));
        Parts.dueSame("appendText", HomeworkBarter::new, x -> x.appendText(0), Parts.TEXT);
    }

    // ---- tokens

    /** "Spaces (byte 32) and line feeds (byte 10) may stand before, between and behind tokens." */
    private static void blanksAndOtherBytes() {
        String school = "school 10 1 0 0;";
        for (int sign = 0; sign < 256; sign++) {
            String one = String.valueOf((char) sign);
            boolean isBlank = sign == 32 || sign == 10;
            if (isBlank) {
                dueSetup(one + school + TWO, 2);
                dueSetup(school + one + TWO, 2);
                dueSetup(school + TWO + one, 2);
                dueSetup("school" + one + "10" + one + "1" + one + "0" + one + "0" + one + ";" + one + TWO + one, 2);
                dueScript(one + "pass" + one + one + "1" + one + ";" + one + "pass 1;" + one, 2);
                continue;
            }
            dueWrongSetup(one + school + TWO, 1, 0);
            dueWrongSetup(school + one + TWO, 1, 16);
            dueWrongSetup(school + TWO + one, 1, 44);
            dueWrongScript(one + "pass 1;pass 1;", 1, 0);
            dueWrongScript("pass 1;" + one + "pass 1;", 1, 7);
            dueWrongScript("pass 1;pass 1;" + one, 1, 14);
            if (sign >= '0' && sign <= '9') continue;
            boolean isLetter = sign >= 'a' && sign <= 'z';
            dueWrongSetup("school" + one + " 10 1 0 0;" + TWO, 1, isLetter ? 0 : 6);
            dueWrongScript("pass" + one + " 1;", 1, isLetter ? 0 : 4);
            dueWrongScript("work 0 sums" + one + "1;", 1, isLetter ? 7 : 11);
            dueWrongSetup("school " + one + "10 1 0 0;" + TWO, 1, 7);
            dueWrongScript("pass " + one + "1;", 1, 5);
            if (sign == ';') continue;
            dueWrongScript("pass 1" + one + ";", 1, 6);
            dueWrongScript("pass 1 " + one + ";", 1, 7);
        }
    }

    /** "maximal runs of the letters a to z", "maximal runs of digits": a token ends where its run ends, blank or not. */
    private static void bytesNextToTokens() {
        dueSetup("school10 1 0 0;pupil0 0 1 1spy;pupil5 5 1 1spy;", 2);
        dueScript("work0sums1;work1verses1;swap0 1 0 0;lend0 1sums1;pay1 0verses1;move0 0 0;pass1;", 7);
        dueWrongSetup("schoolpupil", 1, 0);
        dueWrongSetup("school 10 10 0;" + TWO, 1, 14);
        dueWrongSetup("school 1 0 1 0 0;" + TWO, 2, 7);
        dueWrongSetup("school 10 1 0 0;pupil 0 0 1 1 spypupil 5 5 1 1;", 1, 30);
        dueWrongScript("pa ss 1;", 1, 0);
        dueWrongScript("passpass 1;", 1, 0);
        dueWrongScript("pass 1 1;", 1, 7);
        dueWrongScript("work 0 s ums 1;", 1, 7);
        dueWrongScript("work 0 sumssums 1;", 1, 7);
    }

    /** A word is another one if any of its letters is, or if it has one less or more. */
    private static void wordsAsAWhole() {
        dueOneWord(true, "", "school", " 60 20 0 0;" + TWO);
        dueOneWord(true, "school 60 20 0 0;", "pupil", " 0 0 1 1;" + TWO);
        dueOneWord(true, "school 60 20 0 0;pupil 0 0 1 1;", "pupil", " 5 5 1 1;");
        dueOneWord(true, "school 60 20 0 0;pupil 0 0 1 1 ", "spy", ";pupil 5 5 1 1;");
        dueOneWord(false, "pass 1;", "work", " 0 sums 1;");
        dueOneWord(false, "pass 1;", "swap", " 0 1 0 0;");
        dueOneWord(false, "pass 1;", "lend", " 0 1 sums 1;");
        dueOneWord(false, "pass 1;", "pay", " 0 1 sums 1;");
        dueOneWord(false, "pass 1;", "move", " 0 1 1;");
        dueOneWord(false, "pass 1;", "confess", " 0;");
        dueOneWord(false, "pass 1;", "pass", " 1;");
        for (String kind : new String[] {"sums", "verses"}) {
            dueOneWord(false, "work 0 ", kind, " 1;");
            dueOneWord(false, "lend 0 1 ", kind, " 1;");
            dueOneWord(false, "pay 0 1 ", kind, " 1;");
        }
    }

    private static void dueOneWord(boolean isSetup, String ahead, String word, String behind) {
        List<String> others = new ArrayList<>(List.of(word + "a", word + "z", "a" + word, "z" + word, word + word));
        others.add(word.substring(1));
        others.add(word.substring(0, word.length() - 1));
        others.add(new StringBuilder(word).reverse().toString());
        for (int i = 0; i < word.length(); i++) {
            for (String letter : new String[] {"a", "z", "e"}) {
                if (letter.charAt(0) == word.charAt(i)) continue;
                others.add(word.substring(0, i) + letter + word.substring(i + 1));
            }
        }
        for (String other : others) dueWrong(isSetup, ahead + other + behind, 1, ahead.length());
        String capital = word.substring(0, 1).toUpperCase() + word.substring(1);
        dueWrong(isSetup, ahead + capital + behind, 1, ahead.length());
    }

    // ---- numbers: the last one inside and the first one outside, on each side, and those that wrap around

    private static void numbersOfSetups() {
        dueSetupNumber("school ", " 20 9 9;" + TWO, 10, 60, x -> x.count(2));
        dueSetupNumber("school 60 ", " 9 9;" + TWO, 1, 20, x -> x.count(3));
        dueSetupNumber("school 60 20 ", " 9;" + TWO, 0, 9, x -> x.count(4));
        dueSetupNumber("school 60 20 9 ", ";" + TWO, 0, 9, x -> x.count(5));
        for (int pupil = 0; pupil < 2; pupil++) {
            int one = pupil;
            String ahead = "school 60 20 9 9;" + (pupil == 1 ? "pupil 4 4 9 9;" : "");
            String behind = pupil == 0 ? "pupil 4 4 9 9;" : "";
            dueSetupNumber(ahead + "pupil ", " 3 9 9;" + behind, 0, 5, x -> x.pupil(one, 0));
            dueSetupNumber(ahead + "pupil 3 ", " 9 9;" + behind, 0, 5, x -> x.pupil(one, 1));
            dueSetupNumber(ahead + "pupil 3 3 ", " 9;" + behind, 1, 9, x -> x.pupil(one, 2));
            dueSetupNumber(ahead + "pupil 3 3 9 ", " spy;" + behind, 1, 9, x -> x.pupil(one, 3));
        }
    }

    private static void dueSetupNumber(String ahead, String behind, int least, int most,
            ToIntFunction<HomeworkBarter> tell) {
        for (int number = least; number <= most; number++) {
            HomeworkBarter x = new HomeworkBarter();
            Check.due("load of " + ahead + number + behind, 2, Check.load(x, ahead + number + behind));
            Check.due(number + " of " + ahead + number + behind, number, tell.applyAsInt(x));
        }
        for (String zeros : ZEROS) {
            HomeworkBarter x = new HomeworkBarter();
            Check.due("load with zeros ahead of " + most, 2, Check.load(x, ahead + zeros + most + behind));
            Check.due(most + " with zeros ahead", most, tell.applyAsInt(x));
        }
        if (least == 0) dueSetup(ahead + "0".repeat(300) + behind, 2);
        for (String number : outside(least, most)) dueWrongSetup(ahead + number + behind, 2, ahead.length());
        dueWrongSetup(ahead + "-" + most + behind, 1, ahead.length());
        dueWrongSetup(ahead + "+" + most + behind, 1, ahead.length());
    }

    private static List<String> outside(int least, int most) {
        List<String> numbers = new ArrayList<>(List.of(String.valueOf(most + 1), String.valueOf(most + 10),
            String.valueOf(most) + "0000", "100", "128", "255", "256", "999", "1000", "1001", "2147483647", "4294967295",
            "9223372036854775807", "18446744073709551615", "9".repeat(300)));
        if (least > 0) numbers.addAll(List.of(String.valueOf(least - 1), "0", "0".repeat(300)));
        for (int number : new int[] {least, most}) {
            numbers.add(String.valueOf(256 + number));
            numbers.add(String.valueOf(65536 + number));
            numbers.add(String.valueOf((1L << 32) + number));
            numbers.add(String.valueOf((1L << 33) + number));
            numbers.add(java.math.BigInteger.ONE.shiftLeft(64).add(java.math.BigInteger.valueOf(number)).toString());
            String two = number < 10 ? "0" + number : String.valueOf(number);
            for (String ahead : AHEAD_OF_WRAPPED) numbers.add(ahead + two);
        }
        return numbers;
    }

    /** "In a script PUPIL is 0 to 11, PIECES 1 to 20, SUMS and VERSES 0 to 20, WEEKS 1 to 10"; ROW and SEAT 0 to 5. */
    private static void numbersOfScripts() {
        dueScriptNumber("work ", " sums 20;", 0, 11);
        dueScriptNumber("work 0 verses ", ";", 1, 20);
        dueScriptNumber("swap ", " 1 0 0;", 0, 11);
        dueScriptNumber("swap 0 ", " 0 0;", 0, 11);
        dueScriptNumber("swap 0 1 ", " 0;", 0, 20);
        dueScriptNumber("swap 0 1 0 ", ";", 0, 20);
        for (String verb : new String[] {"lend", "pay"}) {
            dueScriptNumber(verb + " ", " 1 sums 1;", 0, 11);
            dueScriptNumber(verb + " 0 ", " verses 1;", 0, 11);
            dueScriptNumber(verb + " 0 1 sums ", ";", 1, 20);
        }
        dueScriptNumber("move ", " 0 0;", 0, 11);
        dueScriptNumber("move 0 ", " 0;", 0, 5);
        dueScriptNumber("move 0 0 ", ";", 0, 5);
        dueScriptNumber("confess ", ";", 0, 11);
        dueScriptNumber("pass ", ";", 1, 10);
    }

    private static void dueScriptNumber(String ahead, String behind, int least, int most) {
        for (int number = least; number <= most; number++) dueScriptWithoutError(ahead + number + behind);
        for (String zeros : ZEROS) dueScriptWithoutError(ahead + zeros + most + behind);
        for (String number : outside(least, most)) dueWrongScript(ahead + number + behind, 2, ahead.length());
        dueWrongScript(ahead + "-1" + behind, 1, ahead.length());
    }

    private static void dueScriptWithoutError(String script) {
        HomeworkBarter x = Check.school(WIDE);
        if (Check.play(x, script) < 0) Check.tell("play of " + script + " has an error");
        dueError(x, script, 0, -1);
    }

    // ---- each token of a text: missing, too early an end, another one

    private static void eachTokenOfASetup() {
        String[] tokens = "school 10 1 0 0 ; pupil 0 0 1 1 spy ; pupil 5 5 9 9 ; pupil 3 3 3 3 spy ;".split(" ");
        dueEachToken(true, tokens, tokens.length - 7);
    }

    private static void eachTokenOfAScript() {
        String[] commands = {"work 0 sums 1 ;", "swap 0 1 0 0 ;", "lend 0 1 verses 1 ;", "pay 1 0 verses 1 ;",
            "move 0 5 5 ;", "confess 0 ;", "pass 1 ;"};
        for (String command : commands) {
            dueEachToken(false, command.split(" "), 0);
            dueEachToken(false, ("pass 1 ; " + command).split(" "), 0, 3);
        }
    }

    /** So many tokens are a whole text; no other number of them is, but for all. */
    private static void dueEachToken(boolean isSetup, String[] tokens, Integer... whole) {
        String ahead = "";
        for (int i = 0; i < tokens.length; i++) {
            if (!List.of(whole).contains(i)) {
                dueWrong(isSetup, ahead, 1, ahead.length());
                dueWrong(isSetup, ahead + "\n  ", 1, ahead.length() + 3);
            }
            String behind = "";
            for (int k = i + 1; k < tokens.length; k++) behind += " " + tokens[k];
            dueEachOther(isSetup, tokens[i], ahead, behind);
            ahead += tokens[i] + " ";
        }
    }

    private static void dueEachOther(boolean isSetup, String token, String ahead, String behind) {
        boolean isNumber = Character.isDigit(token.charAt(0));
        List<String> others = new ArrayList<>(List.of("x", "school", "sum", "#", "A", "\0", "\t", "_" + token));
        if (!token.equals("spy")) others.add("spy");
        if (!token.equals(";") && !token.equals("spy")) others.add(";");
        if (!token.equals("pupil")) others.add("pupil");
        if (!isNumber) others.addAll(List.of("0", "1", "99999"));
        for (String other : others) {
            if (other.equals(token) || token.equals(";") && other.equals("spy")) continue;
            dueWrong(isSetup, ahead + other + behind, 1, ahead.length());
        }
        if (isNumber) dueWrong(isSetup, ahead + "61" + behind, 2, ahead.length());
        if (token.equals(";")) dueWrong(isSetup, ahead + "0 ;" + behind, 1, ahead.length());
        if (!token.equals(";")) return;
        dueWrong(isSetup, ahead + "; ;" + behind, 1, ahead.length() + 2);
    }

    // ---- how many pupils, how many commands

    private static String pupils(int number) {
        StringBuilder all = new StringBuilder("school 60 20 0 0;");
        for (int i = 0; i < number; i++) all.append("pupil ").append(i / 6).append(' ').append(i % 6).append(" 9 9;");
        return all.toString();
    }

    /** "There are 2 to 12 PUPILS"; "4 for the word "pupil" of a 13th pupil". */
    private static void twoToTwelvePupils() {
        for (int number = 0; number < 2; number++) {
            dueWrongSetup(pupils(number), 1, pupils(number).length());
            dueWrongSetup(pupils(number) + " \n", 1, pupils(number).length() + 2);
        }
        for (int number = 2; number <= 12; number++) {
            dueSetup(pupils(number), number);
            dueNumbered(Check.school(pupils(number)), number);
        }
        int end = pupils(12).length();
        dueWrongSetup(pupils(13), 4, end);
        dueWrongSetup(pupils(14), 4, end);
        dueWrongSetup(pupils(12) + "\n \npupil", 4, end + 3);
        dueWrongSetup(pupils(12) + "pupil spy spy", 4, end);
        dueWrongSetup(pupils(12) + "pupil 0 0 1 1;", 4, end);
        dueSetup(pupils(12) + "   ", 12);
        for (String other : new String[] {"pupils", "spy", "school", ";", "7", "!", "pupi"}) {
            dueWrongSetup(pupils(12) + other, 1, end);
        }
    }

    private static void dueNumbered(HomeworkBarter x, int number) {
        for (int pupil = 0; pupil < number; pupil++) {
            Check.due("bench of " + pupil + " of " + number, pupil, 6 * x.pupil(pupil, 0) + x.pupil(pupil, 1));
        }
        Check.dueOutOfBounds("pupil(" + number + ", 0)", () -> x.pupil(number, 0));
        Check.dueOutOfBounds("pupil(-1, 0)", () -> x.pupil(-1, 0));
    }

    /** "A script has at most 25 commands"; "4 for [...] the first word of a 26th command". */
    private static void atMost25Commands() {
        for (int number : new int[] {0, 1, 2, 24, 25}) dueScript("pass 1;".repeat(number), number);
        String full = "pass 1;".repeat(25);
        dueScript(full + " \n", 25);
        for (String verb : new String[] {"work", "swap", "lend", "pay", "move", "confess", "pass"}) {
            dueWrongScript(full + verb, 4, 175);
            dueWrongScript(full + "\n" + verb + " 99;", 4, 176);
        }
        dueWrongScript(full + full, 4, 175);
        for (String other : new String[] {"sums", "pupil", "passs", ";", "7", "!"}) dueWrongScript(full + other, 1, 175);
        dueWrongScript("pass 1;".repeat(24) + "pass 11;" + "pass 1;", 2, 173);
    }

    // ---- errors

    /** "no two on the same one"; "3 for the SEAT of a bench that is taken". */
    private static void takenSeats() {
        for (int pupil = 1; pupil < 12; pupil++) {
            for (int taken = 0; taken < pupil; taken++) {
                String ahead = pupils(pupil) + "pupil " + taken / 6 + " ";
                dueWrongSetup(ahead + taken % 6 + " 9 9;pupil 5 5 9 9;", 3, ahead.length());
            }
        }
        dueSetup("school 10 1 0 0;pupil 1 2 1 1;pupil 2 1 1 1;pupil 1 1 1 1;pupil 2 2 1 1;pupil 1 3 1 1;", 5);
        String one = "school 10 1 0 0;pupil 1 2 1 1;pupil 01 ";
        dueWrongSetup(one + "002 1 1;", 3, one.length());
        dueWrongSetup(one + "2", 3, one.length());
        dueWrongSetup(one + "2!", 3, one.length());
        dueWrongSetup(one + "2 0 0;", 3, one.length());
        dueWrongSetup(one + "!2 1 1;", 1, one.length());
    }

    /** "The error code, of several the least". */
    private static void theLeastOfSeveralErrors() {
        // Where a 26th command or a 13th pupil would begin, what is none of them is but not allowed.
        dueWrongScript("pass 1;".repeat(25) + "pupil", 1, 175);
        dueWrongSetup(pupils(12) + "work", 1, pupils(12).length());
        // A SEAT that is out of range is on no bench, and so on none that is taken.
        dueWrongSetup("school 10 1 0 0;pupil 5 5 1 1;pupil 5 6 1 1;", 2, 38);
        dueWrongSetup("school 10 1 0 0;pupil 1 0 1 1;pupil 0 6 1 1;", 2, 38);
        dueWrongSetup("school 10 1 0 0;pupil 5 5 1 1;pupil 6 5 1 1;", 2, 36);
    }

    /** "The parser reads the tokens from the first one on and stops at the first token that is wrong." */
    private static void theFirstWrongToken() {
        dueWrongSetup("school 61 x", 2, 7);
        dueWrongSetup("school x 61", 1, 7);
        dueWrongSetup("school 60 21 10 10", 2, 10);
        dueWrongSetup("school 10 1 0 0;pupil 0 0 10 x", 2, 26);
        dueWrongSetup("school 10 1 0 0;pupil 0 0 1 1;pupil 0 0 10 1;pupil 6", 3, 38);
        dueWrongSetup("school 10 1 0 0;pupil 0 6 1 1;pupil 0 6 1 1;", 2, 24);
        dueWrongSetup("school 10 1 0 0;pupil 0 0 1 1;pupil 6 0 1 1;", 2, 36);
        dueWrongSetup("school 10 1 0 0;pupil 0 0 1 1;\1pupil 0 0 1 1;", 1, 30);
        dueWrongScript("pass 11;pas", 2, 5);
        dueWrongScript("pas 11;", 1, 0);
        dueWrongScript("pass 1;swap 12 12 21 21;", 2, 12);
        dueWrongScript("lend 0 1 sums 21", 2, 14);
        dueWrongScript("lend 0 1 sums 20", 1, 16);
        dueWrongScript("pass 1;".repeat(24) + "pass 1,pass", 1, 174);
    }

    // ---- promises 4 to 7

    private static HomeworkBarter lived() {
        HomeworkBarter x = Check.school("school 60 2 1 1;pupil 0 0 9 9;pupil 0 1 9 9;pupil 1 1 9 9 spy;pupil 5 5 9 9;",
            "work 0 sums 9;work 1 verses 9;lend 0 1 sums 3;swap 0 1 1 2;pass 1;work 3 verses 4;work 3 sums 4;"
                + "lend 3 2 verses 2;");
        x.swap(3, 3, 1, 1);
        x.work(3, 0, 20);
        x.save(0);
        x.undo();
        return x;
    }

    /**
     * "it replaces the state: WEEK is 0, satchels are empty, there are no debts, all tallies are 0; no act can be
     * undone then; saved states and the counters of reasons stay. The text buffer is empty afterwards".
     */
    private static void loadReplacesTheState() {
        String other = "school 59 19 8 7;pupil 1 0 9 9;pupil 0 5 9 9;pupil 5 4 9 9;pupil 3 5 9 9 spy;pupil 3 3 3 3;";
        Parts fresh = Parts.of(HomeworkBarter::new, x -> Check.load(x, other));
        Parts before = Parts.of(EdgesTextsTest::lived, x -> { });
        Parts after = Parts.of(EdgesTextsTest::lived, x -> Check.due("load", 5, Check.load(x, other)));
        Parts.dueSame("load", before, after, Parts.STATE, Parts.UNDO, Parts.TEXT, Parts.ERROR);
        Check.due("state behind load", fresh.of(Parts.STATE), after.of(Parts.STATE));
        Check.due("acts behind load", fresh.of(Parts.UNDO), after.of(Parts.UNDO));
        Check.due("error behind load", "0 at -1", after.of(Parts.ERROR));
        Check.due("text behind load", "0 bytes, done 0, error 0 at -1", after.of(Parts.TEXT));
        dueLoadForgetsWhatWasTried();
    }

    /** What ifPassed tried with the school of before, with PROOF or detained, is not in the next one. */
    private static void dueLoadForgetsWhatWasTried() {
        for (int limit : new int[] {1, 20}) {
            String setup = "school 60 " + limit + " 1 1;pupil 0 0 9 9;pupil 0 1 9 9;pupil 1 1 9 9 spy;";
            String fresh = Check.state(Check.school(setup));
            for (int weeks = 0; weeks < 4; weeks++) {
                HomeworkBarter x = Check.school(setup, "work 0 sums 20;work 1 verses 20;lend 0 1 sums 9;swap 0 1 5 5;"
                    + "swap 0 1 0 0;swap 0 1 0 0;swap 0 1 0 0;");
                x.ifPassed(weeks, 0);
                Check.due("load", 3, Check.load(x, setup));
                Check.due("state behind load, and ifPassed(" + weeks + ", 0) ahead", fresh, Check.state(x));
                x.ifPassed(0, 1);
                Check.due("load with an error", -1, Check.load(x, "school 10 20 3 3;pupil 5 5 1 1 spy;pupil 6"));
                Check.due("state behind it", fresh, Check.state(x));
            }
        }
    }

    /** "NONE if the text has an error (then nothing else changes)"; the text buffer is empty "also if there is an error". */
    private static void loadWithAnError() {
        String[] wrong = {"", "school", "school 9 1 0 0;", "school 10 1 0 0;pupil 3 3 1 1;pupil 3 3 1 1;", pupils(13),
            "school 10 1 0 0;pupil 3 3 1 1;pupil 3 4 1 1;;", "pass 1;"};
        for (String text : wrong) dueErrorAlone(text, x -> x.load());
    }

    private static void playWithAnError() {
        String[] wrong = {"pass", "pass 0;", "pass 1;".repeat(26), "pass 1;work 3 sums 21;", "pass 1;;",
            "school 10 1 0 0;" + TWO};
        for (String text : wrong) dueErrorAlone(text, x -> x.play());
    }

    private static void dueErrorAlone(String text, ToIntFunction<HomeworkBarter> call) {
        Parts before = Parts.of(EdgesTextsTest::lived, x -> { });
        Parts after = Parts.of(EdgesTextsTest::lived, x -> {
            Check.putText(x, text);
            Check.due("answer to " + text, -1, call.applyAsInt(x));
        });
        Parts.dueSame("the error in " + text, before, after, Parts.TEXT, Parts.ERROR);
        Check.due("text behind " + text, "0 bytes, done 0, error 0 at -1", after.of(Parts.TEXT));
    }

    /** "a script stops behind the first command that is refused, or whose method would throw an exception". */
    private static void playStops() {
        String[] refused = {"work 3 verses 20;", "swap 3 3 0 0;", "swap 0 3 0 0;", "lend 3 2 sums 20;", "pay 3 2 sums 1;",
            "move 3 1 1;", "move 3 5 5;", "confess 3;", "move 0 4 4;"};
        int[] reason = {3, 5, 1, 4, 6, 7, 7, 8, 1};
        for (int i = 0; i < refused.length; i++) {
            HomeworkBarter x = lived();
            int before = x.refusals(reason[i]);
            Check.due("play with " + refused[i], 1, Check.play(x, "work 3 sums 1;" + refused[i] + "pass 1;pass 1;"));
            Check.due("counter of the reason of " + refused[i], before + 1, x.refusals(reason[i]));
            Check.due("errorCode of " + refused[i], 0, x.errorCode());
            Check.due("errorPosition of " + refused[i], -1, x.errorPosition());
            Check.due("WEEK behind " + refused[i], 1, x.count(1));
            Check.due("what was done stays", 5, x.pupil(3, 9));
        }
        String[] thrown = {"work 4 sums 1;", "work 11 sums 1;", "swap 4 0 0 0;", "swap 0 4 0 0;", "swap 4 4 0 0;",
            "lend 4 0 sums 1;", "lend 0 4 sums 1;", "lend 4 4 sums 1;", "pay 4 0 sums 1;", "pay 0 4 sums 1;",
            "pay 11 11 sums 1;", "move 4 0 0;", "move 4 3 3;", "confess 4;", "confess 11;"};
        for (String command : thrown) {
            Parts.dueSame("play of " + command, EdgesTextsTest::lived, x -> Check.due("play of " + command, 0,
                Check.play(x, command + "pass 1;")), Parts.TEXT, Parts.ERROR);
            HomeworkBarter x = lived();
            Check.due("play of pass and " + command, 1, Check.play(x, "pass 1;" + command + "pass 1;"));
            Check.due("WEEK behind it", 2, x.count(1));
            Check.due("errorCode behind it", 0, x.errorCode());
        }
        Check.due("play of commands with the last pupil", 2, Check.play(lived(), "work 3 sums 1;swap 3 2 0 0;"));
        HomeworkBarter x = lived();
        Check.due("load with an error in a school of two", -1, Check.load(x, WIDE + "pupil"));
        Check.due("play of commands with the last pupil behind it", 2, Check.play(x, "work 3 sums 1;swap 2 3 0 0;"));
    }

    /** "The commands are the methods work(), swap(), lend(), payBack(), move(), confess(), pass()". */
    private static void commandsAreTheMethods() {
        String setup = "school 60 20 0 0;pupil 0 0 9 9;pupil 0 1 9 9;pupil 1 1 9 9 spy;pupil 5 5 9 9;";
        HomeworkBarter x = Check.school(setup);
        HomeworkBarter y = Check.school(setup);
        dueAlike("work 0 sums 20;", x, y, y.work(0, 0, 20));
        dueAlike("work 1 verses 19;", x, y, y.work(1, 1, 19));
        dueAlike("swap 0 1 3 4;", x, y, y.swap(0, 1, 3, 4));
        dueAlike("lend 0 3 verses 2;", x, y, y.lend(0, 3, 1, 2));
        dueAlike("lend 0 3 sums 5;", x, y, y.lend(0, 3, 0, 5));
        HomeworkBarter z = Check.school(setup, "work 0 sums 20;work 1 verses 19;swap 0 1 3 4;lend 0 3 verses 2;"
            + "lend 0 3 sums 5;");
        HomeworkBarter w = Check.school(setup, "work 0 sums 20;work 1 verses 19;swap 0 1 3 4;lend 0 3 verses 2;"
            + "lend 0 3 sums 5;");
        dueAlike("pay 3 0 sums 1;", z, w, w.payBack(3, 0, 0, 1));
        dueAlike("pay 3 0 verses 2;", z, w, w.payBack(3, 0, 1, 2));
        dueAlike("move 3 4 2;", z, w, w.move(3, 4, 2));
        dueAlike("confess 1;", z, w, w.confess(1));
        dueAlike("pass 9;", z, w, w.pass(9));
    }

    private static void dueAlike(String command, HomeworkBarter played, HomeworkBarter called, int answer) {
        if (answer < 0) Check.tell(command + " is refused");
        Check.due("play of " + command, 1, Check.play(played, command));
        for (int pupil = 0; pupil < 4; pupil++) {
            for (int what = 5; what < 14; what++) {
                Check.due(command + " pupil(" + pupil + ", " + what + ")", called.pupil(pupil, what),
                    played.pupil(pupil, what));
            }
        }
        Check.due(command + " bench(4, 2)", called.bench(4, 2), played.bench(4, 2));
        Check.due(command + " WEEK", called.count(1), played.count(1));
    }

    /** "the latest load() or play()": no other call changes what it told, and the next one of both does. */
    private static void theLatestError() {
        HomeworkBarter x = new HomeworkBarter();
        Check.due("errorCode without such a call", 0, x.errorCode());
        Check.due("errorPosition without such a call", -1, x.errorPosition());
        Check.putText(x, "school 61");
        Check.due("errorCode as the text is put", 0, x.errorCode());
        x.load();
        Check.due("errorCode of load", 2, x.errorCode());
        Check.due("errorPosition of load", 7, x.errorPosition());
        Check.putText(x, "pass 1;");
        x.pass(1);
        x.save(0);
        x.restore(0);
        x.write(0);
        Check.due("errorCode behind other calls", 2, x.errorCode());
        Check.due("errorPosition behind other calls", 7, x.errorPosition());
        x.play();
        Check.due("errorCode of play", 0, x.errorCode());
        Check.due("errorPosition of play", -1, x.errorPosition());
        Check.due("load of nothing", -1, x.load());
        Check.due("errorCode of nothing", 1, x.errorCode());
        Check.due("errorPosition at the first byte is no NONE", 0, x.errorPosition());
        Check.load(x, WIDE);
        Check.due("errorCode of a load without one", 0, x.errorCode());
        Check.due("errorPosition of a load without one", -1, x.errorPosition());
    }
}
