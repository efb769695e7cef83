/** The barter of homework in a strict school: ../shared/DOC.md says what each public method promises. */
public final class HomeworkBarter {
    public static final int NONE = -1;

    private static final int LEAST_PUPILS = 2;
    private static final int MOST_PUPILS = 12;
    private static final int BENCHES_A_SIDE = 6;
    private static final int SATCHEL_ROOM = 20;
    private static final int MOST_DEBTS = 30;
    private static final int MOST_OWED = 99;
    private static final int LAST_WEEK = 999;
    private static final int LONGEST_DETENTION = 9;
    private static final int MOST_WEEKS_AHEAD = 30;
    private static final int MOST_WEEKS_PASSED = 10;
    private static final int MOST_PIECES = 20;
    private static final int MOST_COMMANDS = 25;
    private static final int MOST_ARGUMENTS = 4;
    private static final int TEXT_ROOM = 500;
    private static final int OUTPUT_ROOM = 256;
    private static final int UNDO_ROOM = 6;
    private static final int SLOTS = 2;

    private static final int SUMS = 0;
    private static final int VERSES = 1;

    private static final int DETAINED = 1;
    private static final int TOO_WEAK = 2;
    private static final int TOO_FULL = 3;
    private static final int TOO_FEW = 4;
    private static final int SAME = 5;
    private static final int NO_SUCH_DEBT = 6;
    private static final int BENCH_TAKEN = 7;
    private static final int NO_PROOF = 8;
    private static final int TOO_DEEP_IN_DEBT = 9;
    private static final int TOO_LATE = 10;
    private static final int LAST_REASON = 10;

    private static final int MADE_SUMS = 0;
    private static final int MADE_VERSES = 1;
    private static final int SWAPS = 2;
    private static final int LOANS = 3;
    private static final int PAID_BACK = 4;
    private static final int HANDED_IN = 5;
    private static final int LOST = 6;
    private static final int SIGHTS = 7;
    private static final int PUNISHMENTS = 8;
    private static final int GROWN = 9;
    private static final int TALLIES = 10;

    private static final int NOT_ALLOWED = 1;
    private static final int OUT_OF_RANGE = 2;
    private static final int SEAT_TAKEN = 3;
    private static final int ONE_TOO_MANY = 4;

    private static final int WORK = 0;
    private static final int SWAP = 1;
    private static final int LEND = 2;
    private static final int PAY = 3;
    private static final int MOVE = 4;
    private static final int CONFESS = 5;
    private static final int PASS = 6;

    private final Tokens tokens = new Tokens();
    private final Script script = new Script();
    private final School now = new School();
    private final School trial = new School();
    private final Undoable undoable = new Undoable();
    private final School[] slots = new School[SLOTS];
    private final boolean[] slotIsFilled = new boolean[SLOTS];
    private final int[] refused = new int[LAST_REASON + 1];
    private final Text written = new Text(OUTPUT_ROOM);

    public HomeworkBarter() {
        for (int slot = 0; slot < SLOTS; slot++) slots[slot] = new School();
        now.open(30, 4, 2, 1);
        now.enrol(0, 0, 8, 3, false);
        now.enrol(0, 1, 2, 9, false);
        now.enrol(1, 0, 5, 5, true);
        now.enrol(3, 3, 7, 7, false);
        now.enrol(3, 4, 1, 6, true);
    }

    // ---- texts

    public int appendText(int fourBytes) throws IllegalStateException {
        Text text = tokens.text;
        if (text.length > TEXT_ROOM - 4) throw new IllegalStateException("the text would be too long");
        for (int shift = 24; shift >= 0; shift -= 8) text.append(fourBytes >>> shift & 255);
        return text.length;
    }

    public int truncateText(int length) throws IllegalArgumentException {
        needRange(length, 0, tokens.text.length);
        tokens.text.cut(length);
        return length;
    }

    public int load() {
        trial.readSetup(tokens);
        tokens.text.cut(0);
        if (tokens.failed()) return NONE;
        now.copyFrom(trial);
        undoable.forgetAll();
        return now.size;
    }

    public int play() {
        script.read(tokens);
        tokens.text.cut(0);
        if (tokens.failed()) return NONE;
        int done = 0;
        while (done < script.size && perform(done) >= 0) done++;
        return done;
    }

    public int errorCode() {
        return tokens.errorCode;
    }

    public int errorPosition() {
        return tokens.errorPosition;
    }

    /** Answers as the command's method would; below 0 also where this method would throw. */
    private int perform(int command) {
        int verb = script.verb(command);
        int first = script.argument(command, 0);
        int second = script.argument(command, 1);
        int third = script.argument(command, 2);
        int fourth = script.argument(command, 3);
        if (verb == PASS) return doPass(first);
        if (!now.has(first)) return NONE;
        if ((verb == SWAP || verb == LEND || verb == PAY) && !now.has(second)) return NONE;
        switch (verb) {
            case WORK: return doWork(first, second, third);
            case SWAP: return doSwap(first, second, third, fourth);
            case LEND: return doLend(first, second, third, fourth);
            case PAY: return doPay(first, second, third, fourth);
            case MOVE: return doMove(first, second, third);
            case CONFESS: return doConfess(first);
            default: return NONE;
        }
    }

    // ---- what there is

    public int count(int what) throws IllegalArgumentException {
        switch (what) {
            case 0: return now.size;
            case 1: return now.week;
            case 2: return now.work;
            case 3: return now.limit;
            case 4: return now.due(SUMS);
            case 5: return now.due(VERSES);
            case 6: return now.piecesOf(SUMS);
            case 7: return now.piecesOf(VERSES);
            case 8: return now.debts.size;
            case 9: return now.debts.piecesOwed();
            case 10: return now.detainedPupils();
            case 11: return now.spies();
            case 12: return undoable.size;
            default: throw new IllegalArgumentException("no such count");
        }
    }

    public int tally(int what) throws IllegalArgumentException {
        needRange(what, 0, TALLIES - 1);
        return now.tallies[what];
    }

    public int pupil(int pupil, int what) throws IndexOutOfBoundsException, IllegalArgumentException {
        needPupil(pupil);
        Pupil one = now.pupils[pupil];
        switch (what) {
            case 0: return one.row;
            case 1: return one.seat;
            case 2: return one.skill(SUMS);
            case 3: return one.skill(VERSES);
            case 4: return one.isSpy ? 1 : 0;
            case 5: return one.strength;
            case 6: return one.proof;
            case 7: return one.marks;
            case 8: return one.detention;
            case 9: return one.sums.size;
            case 10: return one.verses.size;
            case 11: return now.debts.owedBy(pupil);
            case 12: return now.debts.owedTo(pupil);
            case 13: return Integer.bitCount(one.witnesses);
            default: throw new IllegalArgumentException("no such number of a pupil");
        }
    }

    public int piece(int pupil, int subject, int place) throws IndexOutOfBoundsException, IllegalArgumentException {
        needPupil(pupil);
        needSubject(subject);
        return now.pupils[pupil].satchel(subject).makerAt(place);
    }

    public int madeBy(int pupil, int subject, int maker) throws IndexOutOfBoundsException, IllegalArgumentException {
        needPupil(pupil);
        needPupil(maker);
        needSubject(subject);
        return now.pupils[pupil].satchel(subject).piecesBy(maker);
    }

    public int debt(int debt, int what) throws IndexOutOfBoundsException, IllegalArgumentException {
        needDebt(debt);
        switch (what) {
            case 0: return now.debts.debtor[debt];
            case 1: return now.debts.creditor[debt];
            case 2: return now.debts.subject[debt];
            case 3: return now.debts.pieces[debt];
            default: throw new IllegalArgumentException("no such number of a debt");
        }
    }

    public int owes(int pupil, int other, int subject) throws IndexOutOfBoundsException, IllegalArgumentException {
        needPupil(pupil);
        needPupil(other);
        needSubject(subject);
        return now.debts.owed(pupil, other, subject);
    }

    public boolean isNear(int pupil, int other) throws IndexOutOfBoundsException {
        needPupil(pupil);
        needPupil(other);
        return now.pupils[pupil].isNearBench(now.pupils[other].row, now.pupils[other].seat);
    }

    public int witness(int pupil, int place) throws IndexOutOfBoundsException {
        needPupil(pupil);
        return lowest(now.pupils[pupil].witnesses, place);
    }

    public int bench(int row, int seat) throws IllegalArgumentException {
        needBench(row, seat);
        return now.pupilOn(row, seat);
    }

    // ---- reasons, accounts

    public int seers(int pupil, int other) throws IndexOutOfBoundsException, IllegalArgumentException {
        needPupil(pupil);
        needPupil(other);
        if (pupil == other) throw new IllegalArgumentException("both are the same");
        return Integer.bitCount(now.spiesWhoSee(pupil, other));
    }

    public int why(int pupil, int depth) throws IndexOutOfBoundsException, IllegalArgumentException {
        needPupil(pupil);
        needRange(depth, 0, 1);
        Pupil one = now.pupils[pupil];
        int standing = now.standing(one);
        if (depth == 0) return standing;
        switch (standing) {
            case 1: return 100 + one.detention;
            case 2: return 200 + now.proofLookedAt(one);
            case 3: return 300 + now.lacking(one);
            case 4: return 400 + now.debtBeyondSatchel(one);
            default: return 500 + one.strength;
        }
    }

    public int most(int what) throws IllegalArgumentException {
        needRange(what, 0, 4);
        int best = 0;
        for (int i = 1; i < now.size; i++) {
            if (measure(i, what) > measure(best, what)) best = i;
        }
        return best;
    }

    private int measure(int pupil, int what) {
        switch (what) {
            case 0: return now.pupils[pupil].marks;
            case 1: return now.pupils[pupil].proof;
            case 2: return now.debts.owedBy(pupil);
            case 3: return now.debts.owedTo(pupil);
            default: return now.pupils[pupil].sums.size + now.pupils[pupil].verses.size;
        }
    }

    public int ranked(int subject, int place) throws IllegalArgumentException {
        needSubject(subject);
        for (int i = 0; i < now.size; i++) {
            if (now.rank(i, subject) == place) return i;
        }
        return NONE;
    }

    public int mostOf(int subject) throws IllegalArgumentException {
        needSubject(subject);
        int best = 0;
        for (int i = 1; i < now.size; i++) {
            if (now.pupils[i].satchel(subject).size > now.pupils[best].satchel(subject).size) best = i;
        }
        return best;
    }

    public int makers(int pupil, int subject) throws IndexOutOfBoundsException, IllegalArgumentException {
        needPupil(pupil);
        needSubject(subject);
        return now.pupils[pupil].satchel(subject).differentMakers();
    }

    public int needs(int pupil, int subject) throws IndexOutOfBoundsException, IllegalArgumentException {
        needPupil(pupil);
        needSubject(subject);
        return now.lackingOf(now.pupils[pupil], subject);
    }

    public int nearTo(int pupil, int place) throws IndexOutOfBoundsException {
        needPupil(pupil);
        return lowest(now.pupilsNear(pupil), place);
    }

    public int debtOf(int pupil, int place) throws IndexOutOfBoundsException {
        needPupil(pupil);
        return now.debts.debtOwedBy(pupil, place);
    }

    public boolean canPay(int debt) throws IndexOutOfBoundsException {
        needDebt(debt);
        Debts debts = now.debts;
        int pieces = debts.pieces[debt];
        return pieces <= MOST_PIECES
            && now.reasonAgainstPaying(debts.debtor[debt], debts.creditor[debt], debts.subject[debt], pieces) == 0;
    }

    public int refusals(int reason) throws IllegalArgumentException {
        needRange(reason, 1, LAST_REASON);
        return refused[reason];
    }

    public int gap() {
        int[] tallies = now.tallies;
        int made = tallies[MADE_SUMS] + tallies[MADE_VERSES];
        int gone = tallies[HANDED_IN] + tallies[LOST];
        int owed = 0;
        int due = 0;
        int overfull = 0;
        for (int i = 0; i < now.size; i++) {
            owed += now.debts.owedBy(i);
            due += now.debts.owedTo(i);
            if (now.pupils[i].sums.size > SATCHEL_ROOM) overfull++;
            if (now.pupils[i].verses.size > SATCHEL_ROOM) overfull++;
        }
        return Math.abs(made - now.piecesOf(SUMS) - now.piecesOf(VERSES) - gone) + Math.abs(owed - due) + overfull;
    }

    public double meanMarks() {
        int pupils = now.size;
        return pupils > 0 ? (double) now.allMarks() / (double) pupils : 0.0;
    }

    public float ownShare(int pupil) throws IndexOutOfBoundsException {
        needPupil(pupil);
        Pupil one = now.pupils[pupil];
        int own = one.sums.piecesBy(pupil) + one.verses.piecesBy(pupil);
        int all = one.sums.size + one.verses.size;
        return all > 0 ? (float) own / (float) all : 0.0f;
    }

    // ---- what would be and what will be (nothing changes)

    public int couldMake(int pupil, int subject) throws IndexOutOfBoundsException, IllegalArgumentException {
        needPupil(pupil);
        needSubject(subject);
        int effort = now.pupils[pupil].effort(subject);
        return effort > 0 ? now.pupils[pupil].strength / effort : 0;
    }

    public int ifWeek(int pupil, int what) throws IndexOutOfBoundsException, IllegalArgumentException {
        needPupil(pupil);
        needRange(what, 0, 2);
        Pupil one = now.pupils[pupil];
        switch (what) {
            case 0: return now.lacking(one);
            case 1: return now.proofOfHandingIn(one);
            default: return now.detentionBehind(one, now.proofLookedAt(one));
        }
    }

    public int ifPassed(int weeks, int what) throws IllegalArgumentException {
        needRange(weeks, 0, MOST_WEEKS_AHEAD);
        needRange(what, 0, 3);
        trial.copyFrom(now);
        for (int week = 0; week < weeks; week++) trial.endWeek();
        switch (what) {
            case 0: return trial.allMarks();
            case 1: return trial.debts.piecesOwed();
            case 2: return trial.detainedPupils();
            default: return trial.piecesOf(SUMS) + trial.piecesOf(VERSES);
        }
    }

    public int freeIn(int pupil) throws IndexOutOfBoundsException {
        needPupil(pupil);
        trial.copyFrom(now);
        for (int weeks = 0; weeks <= MOST_WEEKS_AHEAD; weeks++) {
            if (!trial.pupils[pupil].isDetained()) return weeks;
            trial.endWeek();
        }
        return NONE;
    }

    public int ifMoved(int pupil, int row, int seat) throws IndexOutOfBoundsException, IllegalArgumentException {
        needPupil(pupil);
        needBench(row, seat);
        return now.spiesNearBench(pupil, row, seat);
    }

    public int whySwap(int pupil, int other, int sums, int verses)
            throws IndexOutOfBoundsException, IllegalArgumentException {
        needSwap(pupil, other, sums, verses);
        return now.reasonAgainstSwapping(pupil, other, sums, verses);
    }

    public int whyLend(int pupil, int other, int subject, int pieces)
            throws IndexOutOfBoundsException, IllegalArgumentException {
        needLoan(pupil, other, subject, pieces);
        return now.reasonAgainstLending(pupil, other, subject, pieces);
    }

    public int safestBench(int pupil) throws IndexOutOfBoundsException {
        needPupil(pupil);
        int safest = NONE;
        int fewest = MOST_PUPILS;
        for (int bench = 0; bench < BENCHES_A_SIDE * BENCHES_A_SIDE; bench++) {
            int row = bench / BENCHES_A_SIDE;
            int seat = bench % BENCHES_A_SIDE;
            int spies = now.spiesNearBench(pupil, row, seat);
            if (now.pupilOn(row, seat) == NONE && spies < fewest) {
                safest = bench;
                fewest = spies;
            }
        }
        return safest;
    }

    public int safestPartner(int pupil) throws IndexOutOfBoundsException {
        needPupil(pupil);
        int safest = NONE;
        int fewest = MOST_PUPILS;
        for (int other = 0; other < now.size; other++) {
            int spies = Integer.bitCount(now.spiesWhoSee(pupil, other));
            if (other != pupil && !now.pupils[other].isDetained() && spies < fewest) {
                safest = other;
                fewest = spies;
            }
        }
        return safest;
    }

    public int drownsIn(int pupil, int subject) throws IndexOutOfBoundsException, IllegalArgumentException {
        needPupil(pupil);
        needSubject(subject);
        if (now.debts.owedIn(pupil, subject, 0) == 0) return NONE;
        for (int weeks = 0; weeks <= SATCHEL_ROOM; weeks++) {
            if (now.debts.owedIn(pupil, subject, weeks) > SATCHEL_ROOM) return weeks;
        }
        return NONE;
    }

    // ---- acts: a number as told, or minus the reason

    public int work(int pupil, int subject, int pieces) throws IndexOutOfBoundsException, IllegalArgumentException {
        needPupil(pupil);
        needSubject(subject);
        needRange(pieces, 1, MOST_PIECES);
        return doWork(pupil, subject, pieces);
    }

    public int swap(int pupil, int other, int sums, int verses)
            throws IndexOutOfBoundsException, IllegalArgumentException {
        needSwap(pupil, other, sums, verses);
        return doSwap(pupil, other, sums, verses);
    }

    public int lend(int pupil, int other, int subject, int pieces)
            throws IndexOutOfBoundsException, IllegalArgumentException {
        needLoan(pupil, other, subject, pieces);
        return doLend(pupil, other, subject, pieces);
    }

    public int payBack(int pupil, int other, int subject, int pieces)
            throws IndexOutOfBoundsException, IllegalArgumentException {
        needLoan(pupil, other, subject, pieces);
        return doPay(pupil, other, subject, pieces);
    }

    public int move(int pupil, int row, int seat) throws IndexOutOfBoundsException, IllegalArgumentException {
        needPupil(pupil);
        needBench(row, seat);
        return doMove(pupil, row, seat);
    }

    public int confess(int pupil) throws IndexOutOfBoundsException {
        needPupil(pupil);
        return doConfess(pupil);
    }

    public int pass(int weeks) throws IllegalArgumentException {
        needRange(weeks, 1, MOST_WEEKS_PASSED);
        return doPass(weeks);
    }

    private int doWork(int pupil, int subject, int pieces) {
        int reason = now.reasonAgainstMaking(pupil, subject, pieces);
        if (reason != 0) return refuse(reason);
        undoable.remember(now);
        return now.makePieces(pupil, subject, pieces);
    }

    private int doSwap(int pupil, int other, int sums, int verses) {
        int reason = now.reasonAgainstSwapping(pupil, other, sums, verses);
        if (reason != 0) return refuse(reason);
        undoable.remember(now);
        return now.swapPieces(pupil, other, sums, verses);
    }

    private int doLend(int pupil, int other, int subject, int pieces) {
        int reason = now.reasonAgainstLending(pupil, other, subject, pieces);
        if (reason != 0) return refuse(reason);
        undoable.remember(now);
        return now.lendPieces(pupil, other, subject, pieces);
    }

    private int doPay(int pupil, int other, int subject, int pieces) {
        int reason = now.reasonAgainstPaying(pupil, other, subject, pieces);
        if (reason != 0) return refuse(reason);
        undoable.remember(now);
        return now.payPieces(pupil, other, subject, pieces);
    }

    private int doMove(int pupil, int row, int seat) {
        int reason = now.reasonAgainstMoving(pupil, row, seat);
        if (reason != 0) return refuse(reason);
        undoable.remember(now);
        return now.seatPupil(pupil, row, seat);
    }

    private int doConfess(int pupil) {
        if (now.pupils[pupil].proof == 0) return refuse(NO_PROOF);
        undoable.remember(now);
        return now.pupils[pupil].admit();
    }

    private int doPass(int weeks) {
        if (now.week + weeks > LAST_WEEK) return refuse(TOO_LATE);
        undoable.remember(now);
        int punished = 0;
        for (int week = 0; week < weeks; week++) punished += now.endWeek();
        return punished;
    }

    private int refuse(int reason) {
        if (reason > 0 && reason < refused.length) refused[reason]++;
        return -reason;
    }

    // ---- output

    public int write(int pupil) throws IndexOutOfBoundsException {
        needPupil(pupil);
        written.cut(0);
        writeMakers(now.pupils[pupil].sums);
        written.append('/');
        writeMakers(now.pupils[pupil].verses);
        for (int debt = 0; debt < now.debts.size; debt++) {
            if (now.debts.debtor[debt] == pupil) writeDebt(debt);
        }
        return written.length;
    }

    public int output(int index) {
        return written.at(index);
    }

    private void writeMakers(Satchel satchel) {
        for (int place = 0; place < satchel.size; place++) written.append('a' + satchel.makerAt(place));
    }

    private void writeDebt(int debt) {
        int pieces = now.debts.pieces[debt];
        written.append(' ');
        written.append('a' + now.debts.creditor[debt]);
        written.append(now.debts.subject[debt] == SUMS ? 's' : 'v');
        if (pieces > 9) written.append('0' + pieces / 10);
        written.append('0' + pieces % 10);
    }

    // ---- undo, saved states

    public int undo() {
        if (undoable.size == 0) return NONE;
        undoable.bringBack(now);
        return undoable.size;
    }

    public void save(int slot) throws IllegalArgumentException {
        needRange(slot, 0, SLOTS - 1);
        slots[slot].copyFrom(now);
        slotIsFilled[slot] = true;
    }

    public void restore(int slot) throws IllegalArgumentException, IllegalStateException {
        needRange(slot, 0, SLOTS - 1);
        if (!slotIsFilled[slot]) throw new IllegalStateException("nothing is saved there");
        now.copyFrom(slots[slot]);
        undoable.forgetAll();
    }

    // ---- tests of arguments

    private void needPupil(int pupil) {
        if (!now.has(pupil)) throw new IndexOutOfBoundsException("no such pupil");
    }

    private void needDebt(int debt) {
        if (debt < 0 || debt >= now.debts.size) throw new IndexOutOfBoundsException("no such debt");
    }

    private static void needRange(int number, int least, int most) {
        if (number < least || number > most) throw new IllegalArgumentException("out of range");
    }

    private static void needSubject(int subject) {
        needRange(subject, SUMS, VERSES);
    }

    private static void needBench(int row, int seat) {
        needRange(row, 0, BENCHES_A_SIDE - 1);
        needRange(seat, 0, BENCHES_A_SIDE - 1);
    }

    private void needSwap(int pupil, int other, int sums, int verses) {
        needPupil(pupil);
        needPupil(other);
        needRange(sums, 0, MOST_PIECES);
        needRange(verses, 0, MOST_PIECES);
    }

    private void needLoan(int pupil, int other, int subject, int pieces) {
        needPupil(pupil);
        needPupil(other);
        needSubject(subject);
        needRange(pieces, 1, MOST_PIECES);
    }

    /** Sets of pupils are bits: this is the pupil at a place among those of a set, the lowest first. */
    private static int lowest(int set, int place) {
        int left = place;
        for (int i = 0; i < MOST_PUPILS; i++) {
            if ((set >> i & 1) == 0) continue;
            if (left == 0) return i;
            left--;
        }
        return NONE;
    }

    /** Bytes one behind the other, up to a room that is made once. */
    private static final class Text {
        private final byte[] bytes;
        int length;

        Text(int room) {
            bytes = new byte[room > 0 ? room : 0];
            length = 0;
        }

        void append(int oneByte) {
            if (length >= bytes.length) return;
            bytes[length] = (byte) oneByte;
            length++;
        }

        void cut(int newLength) {
            if (newLength >= 0 && newLength < length) length = newLength;
        }

        int at(int index) {
            return index >= 0 && index < length ? bytes[index] & 255 : NONE;
        }
    }

    /** The tokens of a text, one at a time; behind the first error no token fits any more. */
    private static final class Tokens {
        private static final int END = 0;
        private static final int WORD = 1;
        private static final int NUMBER = 2;
        private static final int SEMICOLON = 3;
        private static final int WRONG = 4;
        private static final int HUGE = 1000;

        final Text text = new Text(TEXT_ROOM);
        private int kind;
        private int start;
        private int end;
        private int value;
        int errorCode;
        int errorPosition;

        Tokens() {
            errorPosition = NONE;
        }

        void begin() {
            errorCode = 0;
            errorPosition = NONE;
            end = 0;
            advance();
        }

        boolean failed() {
            return errorCode != 0;
        }

        boolean isAtEnd() {
            return kind == END;
        }

        void fail(int code) {
            if (errorCode != 0) return;
            errorCode = code;
            errorPosition = start;
            kind = WRONG;
        }

        void advance() {
            if (errorCode != 0) return;
            start = end;
            while (start < text.length && isBlank(text.at(start))) start++;
            end = start;
            int first = text.at(start);
            if (first == NONE) {
                kind = END;
            } else if (isLetter(first)) {
                kind = WORD;
                while (end < text.length && isLetter(text.at(end))) end++;
            } else if (isDigit(first)) {
                // A number may have any length: HUGE is out of every range, and stands for all above it.
                kind = NUMBER;
                value = 0;
                for (; end < text.length && isDigit(text.at(end)); end++) {
                    value = Math.min(value * 10 + text.at(end) - '0', HUGE);
                }
            } else {
                kind = first == ';' ? SEMICOLON : WRONG;
                end++;
            }
        }

        boolean isWord(String word) {
            if (kind != WORD || end - start != word.length()) return false;
            for (int i = 0; i < word.length(); i++) {
                if (text.at(start + i) != word.charAt(i)) return false;
            }
            return true;
        }

        void takeWord(String word) {
            if (!isWord(word)) fail(NOT_ALLOWED);
            advance();
        }

        void takeSemicolon() {
            if (kind != SEMICOLON) fail(NOT_ALLOWED);
            advance();
        }

        int takeNumber(int least, int most) {
            int number = lookAtNumber(least, most);
            advance();
            return number;
        }

        /** Does not advance, so that the caller may still find this token wrong. */
        int lookAtNumber(int least, int most) {
            if (kind != NUMBER) fail(NOT_ALLOWED);
            if (value < least || value > most) fail(OUT_OF_RANGE);
            return value;
        }

        int takeSubject() {
            int subject = isWord("verses") ? VERSES : SUMS;
            if (subject == SUMS && !isWord("sums")) fail(NOT_ALLOWED);
            advance();
            return subject;
        }

        private static boolean isBlank(int sign) {
            return sign == ' ' || sign == '\n';
        }

        private static boolean isLetter(int sign) {
            return sign >= 'a' && sign <= 'z';
        }

        private static boolean isDigit(int sign) {
            return sign >= '0' && sign <= '9';
        }
    }

    /** The commands of a script: a verb and the arguments of its method each. */
    private static final class Script {
        private final int[] verbs = new int[MOST_COMMANDS];
        private final int[] arguments = new int[MOST_COMMANDS * MOST_ARGUMENTS];
        int size;

        int verb(int command) {
            return command >= 0 && command < size ? verbs[command] : NONE;
        }

        int argument(int command, int place) {
            if (command < 0 || command >= size || place < 0 || place >= MOST_ARGUMENTS) return NONE;
            return arguments[command * MOST_ARGUMENTS + place];
        }

        void read(Tokens tokens) {
            size = 0;
            tokens.begin();
            for (int i = 0; i <= MOST_COMMANDS && !tokens.failed() && !tokens.isAtEnd(); i++) readCommand(tokens);
        }

        private void readCommand(Tokens tokens) {
            int verb = verbHere(tokens);
            if (verb == NONE) tokens.fail(NOT_ALLOWED);
            if (size >= MOST_COMMANDS) tokens.fail(ONE_TOO_MANY);
            tokens.advance();
            if (tokens.failed()) return;
            verbs[size] = verb;
            readArguments(tokens, verb, size * MOST_ARGUMENTS);
            tokens.takeSemicolon();
            size++;
        }

        private static int verbHere(Tokens tokens) {
            if (tokens.isWord("work")) return WORK;
            if (tokens.isWord("swap")) return SWAP;
            if (tokens.isWord("lend")) return LEND;
            if (tokens.isWord("pay")) return PAY;
            if (tokens.isWord("move")) return MOVE;
            if (tokens.isWord("confess")) return CONFESS;
            if (tokens.isWord("pass")) return PASS;
            return NONE;
        }

        private void readArguments(Tokens tokens, int verb, int from) {
            if (from < 0 || from + MOST_ARGUMENTS > arguments.length) return;
            if (verb == PASS) {
                arguments[from] = tokens.takeNumber(1, MOST_WEEKS_PASSED);
                return;
            }
            arguments[from] = tokens.takeNumber(0, MOST_PUPILS - 1);
            if (verb == WORK) {
                arguments[from + 1] = tokens.takeSubject();
                arguments[from + 2] = tokens.takeNumber(1, MOST_PIECES);
            } else if (verb == MOVE) {
                arguments[from + 1] = tokens.takeNumber(0, BENCHES_A_SIDE - 1);
                arguments[from + 2] = tokens.takeNumber(0, BENCHES_A_SIDE - 1);
            } else if (verb == SWAP) {
                arguments[from + 1] = tokens.takeNumber(0, MOST_PUPILS - 1);
                arguments[from + 2] = tokens.takeNumber(0, MOST_PIECES);
                arguments[from + 3] = tokens.takeNumber(0, MOST_PIECES);
            } else if (verb == LEND || verb == PAY) {
                arguments[from + 1] = tokens.takeNumber(0, MOST_PUPILS - 1);
                arguments[from + 2] = tokens.takeSubject();
                arguments[from + 3] = tokens.takeNumber(1, MOST_PIECES);
            }
        }
    }

    /** The latest acts, as the states ahead of them, in a ring. */
    private static final class Undoable {
        private final School[] ring = new School[UNDO_ROOM];
        private int next;
        int size;

        Undoable() {
            for (int i = 0; i < UNDO_ROOM; i++) ring[i] = new School();
        }

        void remember(School school) {
            ring[next].copyFrom(school);
            next = (next + 1) % UNDO_ROOM;
            if (size < UNDO_ROOM) size++;
        }

        void bringBack(School school) {
            if (size == 0) return;
            next = (next + UNDO_ROOM - 1) % UNDO_ROOM;
            size--;
            school.copyFrom(ring[next]);
        }

        void forgetAll() {
            size = 0;
        }
    }

    /** The pieces of one subject that a pupil has, as their makers, the eldest first. */
    private static final class Satchel {
        private final int[] makers = new int[SATCHEL_ROOM];
        int size;

        void copyFrom(Satchel other) {
            System.arraycopy(other.makers, 0, makers, 0, SATCHEL_ROOM);
            size = other.size;
        }

        boolean hasRoomFor(int pieces) {
            return pieces <= SATCHEL_ROOM - size;
        }

        int makerAt(int place) {
            return place >= 0 && place < size ? makers[place] : NONE;
        }

        void put(int maker, int pieces) {
            for (int i = 0; i < pieces && size < SATCHEL_ROOM; i++) {
                makers[size] = maker;
                size++;
            }
        }

        void giveEldest(Satchel other, int pieces) {
            for (int place = 0; place < pieces && place < size; place++) other.put(makers[place], 1);
            dropEldest(pieces);
        }

        void dropEldest(int pieces) {
            if (pieces < 0 || pieces > size) return;
            System.arraycopy(makers, pieces, makers, 0, size - pieces);
            size -= pieces;
        }

        int piecesBy(int maker) {
            int pieces = 0;
            for (int place = 0; place < size; place++) {
                if (makers[place] == maker) pieces++;
            }
            return pieces;
        }

        int differentMakers() {
            return Integer.bitCount(makersButOne(size, NONE));
        }

        /** How many of its eldest pieces one pupil did not make. */
        int foreignPieces(int eldest, int one) {
            int pieces = 0;
            for (int place = 0; place < eldest && place < size; place++) {
                if (makers[place] != one) pieces++;
            }
            return pieces;
        }

        /** The set of those who made its eldest pieces, without one pupil. */
        int makersButOne(int eldest, int one) {
            int set = 0;
            for (int place = 0; place < eldest && place < size; place++) {
                if (makers[place] != one) set |= 1 << makers[place];
            }
            return set;
        }
    }

    /** A pupil on its bench, with its satchels; its witnesses are a set. */
    private static final class Pupil {
        final int number;
        final Satchel sums = new Satchel();
        final Satchel verses = new Satchel();
        int row;
        int seat;
        boolean isSpy;
        int strength;
        int proof;
        int marks;
        int detention;
        int witnesses;
        private int skillInSums;
        private int skillInVerses;

        Pupil(int number) {
            this.number = number;
        }

        void copyFrom(Pupil other) {
            sums.copyFrom(other.sums);
            verses.copyFrom(other.verses);
            row = other.row;
            seat = other.seat;
            isSpy = other.isSpy;
            strength = other.strength;
            proof = other.proof;
            marks = other.marks;
            detention = other.detention;
            witnesses = other.witnesses;
            skillInSums = other.skillInSums;
            skillInVerses = other.skillInVerses;
        }

        void beginSchool(int fullStrength) {
            strength = fullStrength;
            proof = 0;
            marks = 0;
            detention = 0;
            witnesses = 0;
            emptySatchels();
        }

        void sitOn(int newRow, int newSeat) {
            row = newRow;
            seat = newSeat;
        }

        void learn(int newSkillInSums, int newSkillInVerses) {
            skillInSums = newSkillInSums;
            skillInVerses = newSkillInVerses;
        }

        void emptySatchels() {
            sums.size = 0;
            verses.size = 0;
        }

        Satchel satchel(int subject) {
            return subject == SUMS ? sums : verses;
        }

        int skill(int subject) {
            return subject == SUMS ? skillInSums : skillInVerses;
        }

        /** What one piece costs of its strength. */
        int effort(int subject) {
            return 10 - skill(subject);
        }

        boolean isDetained() {
            return detention > 0;
        }

        boolean canSpy() {
            return isSpy && detention == 0;
        }

        boolean isNearBench(int otherRow, int otherSeat) {
            return Math.abs(row - otherRow) <= 1 && Math.abs(seat - otherSeat) <= 1;
        }

        /** By how much its proof grows as it hands in its eldest pieces: the style of sums tells less than rhymes. */
        int proofOf(int handedSums, int handedVerses) {
            int foreignVerses = verses.foreignPieces(handedVerses, number);
            int foreignMakers = Integer.bitCount(verses.makersButOne(handedVerses, number));
            return sums.foreignPieces(handedSums, number) / 3 + foreignVerses - foreignMakers;
        }

        void beSeenBy(int spies) {
            proof += Integer.bitCount(spies);
            witnesses |= spies;
        }

        int admit() {
            proof = proof / 2;
            witnesses = 0;
            marks++;
            return proof;
        }
    }

    /** The debts, the earliest first. */
    private static final class Debts {
        final int[] debtor = new int[MOST_DEBTS];
        final int[] creditor = new int[MOST_DEBTS];
        final int[] subject = new int[MOST_DEBTS];
        final int[] pieces = new int[MOST_DEBTS];
        int size;

        void copyFrom(Debts other) {
            System.arraycopy(other.debtor, 0, debtor, 0, MOST_DEBTS);
            System.arraycopy(other.creditor, 0, creditor, 0, MOST_DEBTS);
            System.arraycopy(other.subject, 0, subject, 0, MOST_DEBTS);
            System.arraycopy(other.pieces, 0, pieces, 0, MOST_DEBTS);
            size = other.size;
        }

        private int find(int pupil, int other, int inSubject) {
            for (int debt = 0; debt < size; debt++) {
                if (debtor[debt] == pupil && creditor[debt] == other && subject[debt] == inSubject) return debt;
            }
            return NONE;
        }

        int owed(int pupil, int other, int inSubject) {
            int debt = find(pupil, other, inSubject);
            return debt == NONE ? 0 : pieces[debt];
        }

        boolean canGrow(int pupil, int other, int inSubject, int more) {
            int debt = find(pupil, other, inSubject);
            return debt == NONE ? size < MOST_DEBTS : pieces[debt] + more <= MOST_OWED;
        }

        int growOne(int pupil, int other, int inSubject, int more) {
            int debt = find(pupil, other, inSubject);
            if (debt == NONE) debt = open(pupil, other, inSubject);
            if (debt == NONE) return 0;
            pieces[debt] += more;
            return pieces[debt];
        }

        private int open(int pupil, int other, int inSubject) {
            if (size >= MOST_DEBTS) return NONE;
            debtor[size] = pupil;
            creditor[size] = other;
            subject[size] = inSubject;
            pieces[size] = 0;
            size++;
            return size - 1;
        }

        int shrinkOne(int pupil, int other, int inSubject, int less) {
            int debt = find(pupil, other, inSubject);
            if (debt == NONE) return 0;
            int left = pieces[debt] - less;
            pieces[debt] = left;
            if (left <= 0) close(debt);
            return left;
        }

        private void close(int debt) {
            size--;
            for (int i = debt; i < size; i++) {
                debtor[i] = debtor[i + 1];
                creditor[i] = creditor[i + 1];
                subject[i] = subject[i + 1];
                pieces[i] = pieces[i + 1];
            }
        }

        /** Answers by how many pieces they grew. */
        int growAll() {
            int grown = 0;
            for (int debt = 0; debt < size; debt++) {
                if (pieces[debt] >= MOST_OWED) continue;
                pieces[debt]++;
                grown++;
            }
            return grown;
        }

        int piecesOwed() {
            int sum = 0;
            for (int debt = 0; debt < size; debt++) sum += pieces[debt];
            return sum;
        }

        int owedBy(int pupil) {
            int sum = 0;
            for (int debt = 0; debt < size; debt++) {
                if (debtor[debt] == pupil) sum += pieces[debt];
            }
            return sum;
        }

        int owedTo(int pupil) {
            int sum = 0;
            for (int debt = 0; debt < size; debt++) {
                if (creditor[debt] == pupil) sum += pieces[debt];
            }
            return sum;
        }

        /** What a pupil owes in a subject some weeks later, if only weeks end. */
        int owedIn(int pupil, int inSubject, int weeks) {
            int sum = 0;
            for (int debt = 0; debt < size; debt++) {
                if (debtor[debt] != pupil || subject[debt] != inSubject) continue;
                sum += Math.min(pieces[debt] + weeks, MOST_OWED);
            }
            return sum;
        }

        int debtOwedBy(int pupil, int place) {
            int left = place;
            for (int debt = 0; debt < size; debt++) {
                if (debtor[debt] != pupil) continue;
                if (left == 0) return debt;
                left--;
            }
            return NONE;
        }
    }

    /** The state: all that can be undone, saved and brought back. */
    private static final class School {
        final Pupil[] pupils = new Pupil[MOST_PUPILS];
        final Debts debts = new Debts();
        final int[] tallies = new int[TALLIES];
        int size;
        int week;
        int work;
        int limit;
        private int dueSums;
        private int dueVerses;

        School() {
            for (int i = 0; i < MOST_PUPILS; i++) pupils[i] = new Pupil(i);
        }

        void copyFrom(School other) {
            for (int i = 0; i < other.size; i++) pupils[i].copyFrom(other.pupils[i]);
            debts.copyFrom(other.debts);
            System.arraycopy(other.tallies, 0, tallies, 0, TALLIES);
            size = other.size;
            week = other.week;
            work = other.work;
            limit = other.limit;
            dueSums = other.dueSums;
            dueVerses = other.dueVerses;
        }

        // -- setups

        void readSetup(Tokens tokens) {
            tokens.begin();
            tokens.takeWord("school");
            int newWork = tokens.takeNumber(10, 60);
            int newLimit = tokens.takeNumber(1, 20);
            int newDueSums = tokens.takeNumber(0, 9);
            int newDueVerses = tokens.takeNumber(0, 9);
            tokens.takeSemicolon();
            open(newWork, newLimit, newDueSums, newDueVerses);
            for (int i = 0; i <= MOST_PUPILS && !tokens.failed(); i++) {
                if (size >= LEAST_PUPILS && tokens.isAtEnd()) return;
                readPupil(tokens);
            }
        }

        void open(int newWork, int newLimit, int newDueSums, int newDueVerses) {
            work = newWork;
            limit = newLimit;
            dueSums = newDueSums;
            dueVerses = newDueVerses;
            size = 0;
            week = 0;
            debts.size = 0;
            for (int what = 0; what < TALLIES; what++) tallies[what] = 0;
        }

        private void readPupil(Tokens tokens) {
            if (size >= MOST_PUPILS && tokens.isWord("pupil")) tokens.fail(ONE_TOO_MANY);
            tokens.takeWord("pupil");
            int row = tokens.takeNumber(0, BENCHES_A_SIDE - 1);
            int seat = tokens.lookAtNumber(0, BENCHES_A_SIDE - 1);
            if (pupilOn(row, seat) != NONE) tokens.fail(SEAT_TAKEN);
            tokens.advance();
            int skillInSums = tokens.takeNumber(1, 9);
            int skillInVerses = tokens.takeNumber(1, 9);
            boolean isSpy = tokens.isWord("spy");
            if (isSpy) tokens.advance();
            tokens.takeSemicolon();
            if (!tokens.failed()) enrol(row, seat, skillInSums, skillInVerses, isSpy);
        }

        void enrol(int row, int seat, int skillInSums, int skillInVerses, boolean isSpy) {
            if (size >= MOST_PUPILS) return;
            Pupil one = pupils[size];
            one.sitOn(row, seat);
            one.learn(skillInSums, skillInVerses);
            one.isSpy = isSpy;
            one.beginSchool(work);
            size++;
        }

        // -- what there is

        boolean has(int pupil) {
            return pupil >= 0 && pupil < size;
        }

        int due(int subject) {
            return subject == SUMS ? dueSums : dueVerses;
        }

        private static int otherSubject(int subject) {
            return subject == SUMS ? VERSES : SUMS;
        }

        int piecesOf(int subject) {
            int sum = 0;
            for (int i = 0; i < size; i++) sum += pupils[i].satchel(subject).size;
            return sum;
        }

        int detainedPupils() {
            int sum = 0;
            for (int i = 0; i < size; i++) {
                if (pupils[i].isDetained()) sum++;
            }
            return sum;
        }

        int spies() {
            int sum = 0;
            for (int i = 0; i < size; i++) {
                if (pupils[i].isSpy) sum++;
            }
            return sum;
        }

        int allMarks() {
            int sum = 0;
            for (int i = 0; i < size; i++) sum += pupils[i].marks;
            return sum;
        }

        int pupilOn(int row, int seat) {
            for (int i = 0; i < size; i++) {
                if (pupils[i].row == row && pupils[i].seat == seat) return i;
            }
            return NONE;
        }

        /** The set of the other pupils near one. */
        int pupilsNear(int pupil) {
            Pupil one = pupils[pupil];
            int set = 0;
            for (int i = 0; i < size; i++) {
                if (i != pupil && pupils[i].isNearBench(one.row, one.seat)) set |= 1 << i;
            }
            return set;
        }

        /** How many pupils stand ahead of one by skill. */
        int rank(int pupil, int subject) {
            int skill = pupils[pupil].skill(subject);
            int ahead = 0;
            for (int i = 0; i < size; i++) {
                int other = pupils[i].skill(subject);
                if (other > skill || other == skill && i < pupil) ahead++;
            }
            return ahead;
        }

        // -- spies

        /** The set of the spies who see a barter of two pupils. */
        int spiesWhoSee(int pupil, int other) {
            Pupil one = pupils[pupil];
            Pupil two = pupils[other];
            int set = 0;
            for (int i = 0; i < size; i++) {
                Pupil spy = pupils[i];
                if (i == pupil || i == other || !spy.canSpy()) continue;
                if (spy.isNearBench(one.row, one.seat) || spy.isNearBench(two.row, two.seat)) set |= 1 << i;
            }
            return set;
        }

        int spiesNearBench(int pupil, int row, int seat) {
            int spies = 0;
            for (int i = 0; i < size; i++) {
                if (i != pupil && pupils[i].canSpy() && pupils[i].isNearBench(row, seat)) spies++;
            }
            return spies;
        }

        private int letSpiesSee(int pupil, int other) {
            int set = spiesWhoSee(pupil, other);
            pupils[pupil].beSeenBy(set);
            pupils[other].beSeenBy(set);
            int spies = Integer.bitCount(set);
            tallies[SIGHTS] += spies;
            return spies;
        }

        // -- reasons

        int reasonAgainstMaking(int pupil, int subject, int pieces) {
            Pupil one = pupils[pupil];
            if (pieces * one.effort(subject) > one.strength) return TOO_WEAK;
            return one.satchel(subject).hasRoomFor(pieces) ? 0 : TOO_FULL;
        }

        int reasonAgainstSwapping(int pupil, int other, int sums, int verses) {
            Pupil one = pupils[pupil];
            Pupil two = pupils[other];
            if (pupil == other) return SAME;
            if (one.isDetained() || two.isDetained()) return DETAINED;
            if (one.sums.size < sums || two.verses.size < verses) return TOO_FEW;
            return two.sums.hasRoomFor(sums) && one.verses.hasRoomFor(verses) ? 0 : TOO_FULL;
        }

        int reasonAgainstLending(int pupil, int other, int subject, int pieces) {
            if (pupil == other) return SAME;
            int reason = reasonAgainstGiving(pupil, other, subject, pieces);
            if (reason != 0) return reason;
            return debts.canGrow(other, pupil, otherSubject(subject), pieces) ? 0 : TOO_DEEP_IN_DEBT;
        }

        int reasonAgainstPaying(int pupil, int other, int subject, int pieces) {
            if (pupil == other) return SAME;
            if (debts.owed(pupil, other, subject) < pieces) return NO_SUCH_DEBT;
            return reasonAgainstGiving(pupil, other, subject, pieces);
        }

        private int reasonAgainstGiving(int pupil, int other, int subject, int pieces) {
            Pupil one = pupils[pupil];
            Pupil two = pupils[other];
            if (one.isDetained() || two.isDetained()) return DETAINED;
            if (one.satchel(subject).size < pieces) return TOO_FEW;
            return two.satchel(subject).hasRoomFor(pieces) ? 0 : TOO_FULL;
        }

        int reasonAgainstMoving(int pupil, int row, int seat) {
            if (pupils[pupil].isDetained()) return DETAINED;
            return pupilOn(row, seat) == NONE ? 0 : BENCH_TAKEN;
        }

        // -- acts, against which there is no reason

        int makePieces(int pupil, int subject, int pieces) {
            Pupil one = pupils[pupil];
            one.strength -= pieces * one.effort(subject);
            one.satchel(subject).put(pupil, pieces);
            tallies[subject == SUMS ? MADE_SUMS : MADE_VERSES] += pieces;
            return one.strength;
        }

        int swapPieces(int pupil, int other, int sums, int verses) {
            pupils[pupil].sums.giveEldest(pupils[other].sums, sums);
            pupils[other].verses.giveEldest(pupils[pupil].verses, verses);
            tallies[SWAPS]++;
            return letSpiesSee(pupil, other);
        }

        int lendPieces(int pupil, int other, int subject, int pieces) {
            pupils[pupil].satchel(subject).giveEldest(pupils[other].satchel(subject), pieces);
            tallies[LOANS]++;
            letSpiesSee(pupil, other);
            return debts.growOne(other, pupil, otherSubject(subject), pieces);
        }

        int payPieces(int pupil, int other, int subject, int pieces) {
            pupils[pupil].satchel(subject).giveEldest(pupils[other].satchel(subject), pieces);
            tallies[PAID_BACK] += pieces;
            letSpiesSee(pupil, other);
            return debts.shrinkOne(pupil, other, subject, pieces);
        }

        int seatPupil(int pupil, int row, int seat) {
            pupils[pupil].sitOn(row, seat);
            return Integer.bitCount(pupilsNear(pupil));
        }

        // -- the end of a week

        /** Answers how many pupils were punished. */
        int endWeek() {
            int punished = 0;
            for (int i = 0; i < size; i++) handIn(pupils[i]);
            for (int i = 0; i < size; i++) punished += lookAtProof(pupils[i]);
            for (int i = 0; i < size; i++) pupils[i].strength = pupils[i].isDetained() ? work / 2 : work;
            tallies[PUNISHMENTS] += punished;
            tallies[GROWN] += debts.growAll();
            week++;
            return punished;
        }

        private void handIn(Pupil one) {
            int sums = handedIn(one, SUMS);
            int verses = handedIn(one, VERSES);
            one.marks += dueSums - sums + dueVerses - verses;
            one.proof += one.proofOf(sums, verses);
            one.sums.dropEldest(sums);
            one.verses.dropEldest(verses);
            tallies[HANDED_IN] += sums + verses;
        }

        private int lookAtProof(Pupil one) {
            boolean isPunished = one.proof >= limit;
            one.detention = detentionBehind(one, one.proof);
            if (!isPunished) return 0;
            one.proof = 0;
            one.witnesses = 0;
            tallies[LOST] += one.sums.size + one.verses.size;
            one.emptySatchels();
            return 1;
        }

        private int handedIn(Pupil one, int subject) {
            return Math.min(due(subject), one.satchel(subject).size);
        }

        int lackingOf(Pupil one, int subject) {
            return due(subject) - handedIn(one, subject);
        }

        int lacking(Pupil one) {
            return lackingOf(one, SUMS) + lackingOf(one, VERSES);
        }

        int proofOfHandingIn(Pupil one) {
            return one.proofOf(handedIn(one, SUMS), handedIn(one, VERSES));
        }

        int proofLookedAt(Pupil one) {
            return one.proof + proofOfHandingIn(one);
        }

        int detentionBehind(Pupil one, int proof) {
            if (proof >= limit) return Math.min(1 + (proof - limit) / 3, LONGEST_DETENTION);
            return Math.max(one.detention - 1, 0);
        }

        // -- how a pupil stands

        int standing(Pupil one) {
            if (one.isDetained()) return 1;
            if (proofLookedAt(one) >= limit) return 2;
            if (lacking(one) > 0) return 3;
            return debtBeyondSatchel(one) == NONE ? 5 : 4;
        }

        /** The lowest debt of it that is of more pieces than it has of this subject. */
        int debtBeyondSatchel(Pupil one) {
            for (int debt = 0; debt < debts.size; debt++) {
                if (debts.debtor[debt] != one.number) continue;
                if (debts.pieces[debt] > one.satchel(debts.subject[debt]).size) return debt;
            }
            return NONE;
        }
    }
}
