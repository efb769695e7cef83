import java.util.ArrayList;
import java.util.HashSet;
import java.util.List;
import java.util.Set;
import java.util.TreeSet;
import java.util.regex.Matcher;
import java.util.regex.Pattern;

/**
 * The document told a second time, with the library's lists and by going through with every "if": slow, and
 * written apart from HomeworkBarter, so that a slip in one of both is seen by RandomRunsTest.
 */
final class Model {
    static final class Member {
        int row, seat, strength, proof, marks, detention;
        int[] skill = new int[2];
        boolean spy;
        List<List<Integer>> satchels = new ArrayList<>(List.of(new ArrayList<>(), new ArrayList<>()));
        Set<Integer> witnesses = new TreeSet<>();

        Member copy() {
            Member m = new Member();
            m.row = row;
            m.seat = seat;
            m.strength = strength;
            m.proof = proof;
            m.marks = marks;
            m.detention = detention;
            m.skill = skill.clone();
            m.spy = spy;
            m.satchels = new ArrayList<>(List.of(new ArrayList<>(satchels.get(0)), new ArrayList<>(satchels.get(1))));
            m.witnesses = new TreeSet<>(witnesses);
            return m;
        }

        boolean near(int otherRow, int otherSeat) {
            return Math.max(Math.abs(row - otherRow), Math.abs(seat - otherSeat)) <= 1;
        }
    }

    static final class State {
        List<Member> members = new ArrayList<>();
        List<int[]> debts = new ArrayList<>();
        int[] tallies = new int[10];
        int week, work, limit;
        int[] due = new int[2];

        State copy() {
            State s = new State();
            for (Member m : members) s.members.add(m.copy());
            for (int[] d : debts) s.debts.add(d.clone());
            s.tallies = tallies.clone();
            s.week = week;
            s.work = work;
            s.limit = limit;
            s.due = due.clone();
            return s;
        }

        int[] growthAtHandingIn = new int[12];

        int endWeek() {
            int before = tallies[8];
            for (int i = 0; i < members.size(); i++) handIn(i);
            for (Member m : members) {
                if (m.proof >= limit) {
                    m.detention = Math.min(9, 1 + (m.proof - limit) / 3);
                    m.proof = 0;
                    m.witnesses.clear();
                    for (List<Integer> satchel : m.satchels) {
                        tallies[6] += satchel.size();
                        satchel.clear();
                    }
                    tallies[8]++;
                } else if (m.detention > 0) {
                    m.detention--;
                }
            }
            for (Member m : members) m.strength = m.detention > 0 ? work / 2 : work;
            for (int[] d : debts) {
                if (d[3] < 99) {
                    d[3]++;
                    tallies[9]++;
                }
            }
            week++;
            return tallies[8] - before;
        }

        private void handIn(int i) {
            Member m = members.get(i);
            int foreignSums = 0;
            int[] foreignVerses = new int[12];
            for (int subject = 0; subject < 2; subject++) {
                for (int k = 0; k < due[subject]; k++) {
                    if (m.satchels.get(subject).isEmpty()) {
                        m.marks++;
                        continue;
                    }
                    int maker = m.satchels.get(subject).remove(0);
                    tallies[5]++;
                    if (maker != i && subject == 0) foreignSums++;
                    if (maker != i && subject == 1) foreignVerses[maker]++;
                }
            }
            int growth = foreignSums / 3;
            for (int verses : foreignVerses) {
                if (verses > 0) growth += verses - 1;
            }
            growthAtHandingIn[i] = growth;
            m.proof += growth;
        }
    }

    static final class Wrong extends RuntimeException {
        private static final long serialVersionUID = 1L;
        final int code, position;

        Wrong(int code, int position) {
            this.code = code;
            this.position = position;
        }
    }

    private State now;
    private final List<State> past = new ArrayList<>();
    private final State[] slots = new State[2];
    private final int[] refused = new int[11];
    private final StringBuilder buffer = new StringBuilder();
    private String written = "";
    private int code = 0;
    private int position = -1;

    Model() {
        buffer.append("school 30 4 2 1; pupil 0 0 8 3; pupil 0 1 2 9; pupil 1 0 5 5 spy; pupil 3 3 7 7; pupil 3 4 1 6 spy;");
        load();
    }

    // ---- texts

    int appendText(int fourBytes) {
        if (buffer.length() + 4 > 500) throw new IllegalStateException();
        for (int i = 3; i >= 0; i--) buffer.append((char) (fourBytes >> 8 * i & 255));
        return buffer.length();
    }

    int truncateText(int length) {
        if (length < 0 || length > buffer.length()) throw new IllegalArgumentException();
        buffer.setLength(length);
        return length;
    }

    private static final Pattern TOKEN = Pattern.compile("[ \\n]*([a-z]+|[0-9]+|[^ \\n])");
    private String text;
    private int place;

    /** The token at the place, "" behind the last one; and start[0] is where it begins. */
    private String token(int[] start) {
        Matcher m = TOKEN.matcher(text);
        if (!m.find(place)) {
            start[0] = text.length();
            return "";
        }
        start[0] = m.start(1);
        return m.group(1);
    }

    private String peek() {
        return token(new int[1]);
    }

    private String eat(String form, int otherwise) {
        int[] start = new int[1];
        String token = token(start);
        if (!token.matches(form)) throw new Wrong(otherwise, start[0]);
        place = start[0] + token.length();
        return token;
    }

    private int number(int low, int high) {
        int[] start = new int[1];
        String token = token(start);
        eat("[0-9]+", 1);
        java.math.BigInteger n = new java.math.BigInteger(token);
        if (n.compareTo(java.math.BigInteger.valueOf(low)) < 0 || n.compareTo(java.math.BigInteger.valueOf(high)) > 0) {
            throw new Wrong(2, start[0]);
        }
        return n.intValue();
    }

    private State readSetup() {
        State s = new State();
        eat("school", 1);
        s.work = number(10, 60);
        s.limit = number(1, 20);
        s.due[0] = number(0, 9);
        s.due[1] = number(0, 9);
        eat(";", 1);
        Set<Integer> taken = new HashSet<>();
        while (s.members.size() < 2 || !peek().isEmpty()) {
            int[] start = new int[1];
            token(start);
            eat("pupil", 1);
            if (s.members.size() == 12) throw new Wrong(4, start[0]);
            Member m = new Member();
            m.row = number(0, 5);
            token(start);
            m.seat = number(0, 5);
            if (!taken.add(10 * m.row + m.seat)) throw new Wrong(3, start[0]);
            m.skill[0] = number(1, 9);
            m.skill[1] = number(1, 9);
            m.spy = peek().equals("spy");
            if (m.spy) eat("spy", 1);
            eat(";", 1);
            m.strength = s.work;
            s.members.add(m);
        }
        return s;
    }

    private List<int[]> readScript() {
        List<int[]> commands = new ArrayList<>();
        while (!peek().isEmpty()) {
            int[] start = new int[1];
            token(start);
            String verb = eat("work|swap|lend|pay|move|confess|pass", 1);
            if (commands.size() == 25) throw new Wrong(4, start[0]);
            int[] c = new int[5];
            c[0] = List.of("work", "swap", "lend", "pay", "move", "confess", "pass").indexOf(verb);
            if (c[0] == 6) {
                c[1] = number(1, 10);
            } else {
                c[1] = number(0, 11);
            }
            if (c[0] >= 1 && c[0] <= 3) c[2] = number(0, 11);
            switch (verb) {
                case "work":
                    c[2] = eat("sums|verses", 1).equals("sums") ? 0 : 1;
                    c[3] = number(1, 20);
                    break;
                case "lend":
                case "pay":
                    c[3] = eat("sums|verses", 1).equals("sums") ? 0 : 1;
                    c[4] = number(1, 20);
                    break;
                case "swap":
                    c[3] = number(0, 20);
                    c[4] = number(0, 20);
                    break;
                case "move":
                    c[2] = number(0, 5);
                    c[3] = number(0, 5);
                    break;
                default:
            }
            eat(";", 1);
            commands.add(c);
        }
        return commands;
    }

    private void beginReading() {
        text = buffer.toString();
        buffer.setLength(0);
        place = 0;
        code = 0;
        position = -1;
    }

    int load() {
        beginReading();
        try {
            now = readSetup();
        } catch (Wrong w) {
            code = w.code;
            position = w.position;
            return -1;
        }
        past.clear();
        return now.members.size();
    }

    int play() {
        beginReading();
        List<int[]> commands;
        try {
            commands = readScript();
        } catch (Wrong w) {
            code = w.code;
            position = w.position;
            return -1;
        }
        int done = 0;
        for (int[] c : commands) {
            try {
                if (perform(c) < 0) return done;
            } catch (IndexOutOfBoundsException e) {
                return done;
            }
            done++;
        }
        return done;
    }

    private int perform(int[] c) {
        switch (c[0]) {
            case 0: return work(c[1], c[2], c[3]);
            case 1: return swap(c[1], c[2], c[3], c[4]);
            case 2: return lend(c[1], c[2], c[3], c[4]);
            case 3: return payBack(c[1], c[2], c[3], c[4]);
            case 4: return move(c[1], c[2], c[3]);
            case 5: return confess(c[1]);
            default: return pass(c[1]);
        }
    }

    int errorCode() {
        return code;
    }

    int errorPosition() {
        return position;
    }

    // ---- tests of arguments

    private Member member(int pupil) {
        if (pupil < 0 || pupil >= now.members.size()) throw new IndexOutOfBoundsException();
        return now.members.get(pupil);
    }

    private static void range(int n, int low, int high) {
        if (n < low || n > high) throw new IllegalArgumentException();
    }

    private int size() {
        return now.members.size();
    }

    // ---- what there is

    int count(int what) {
        range(what, 0, 12);
        int all = 0;
        switch (what) {
            case 0: return size();
            case 1: return now.week;
            case 2: return now.work;
            case 3: return now.limit;
            case 4: return now.due[0];
            case 5: return now.due[1];
            case 6:
            case 7:
                for (Member m : now.members) all += m.satchels.get(what - 6).size();
                return all;
            case 8: return now.debts.size();
            case 9:
                for (int[] d : now.debts) all += d[3];
                return all;
            case 10: return (int) now.members.stream().filter(m -> m.detention > 0).count();
            case 11: return (int) now.members.stream().filter(m -> m.spy).count();
            default: return past.size();
        }
    }

    int tally(int what) {
        range(what, 0, 9);
        return now.tallies[what];
    }

    int pupil(int pupil, int what) {
        Member m = member(pupil);
        range(what, 0, 13);
        switch (what) {
            case 0: return m.row;
            case 1: return m.seat;
            case 2: return m.skill[0];
            case 3: return m.skill[1];
            case 4: return m.spy ? 1 : 0;
            case 5: return m.strength;
            case 6: return m.proof;
            case 7: return m.marks;
            case 8: return m.detention;
            case 9: return m.satchels.get(0).size();
            case 10: return m.satchels.get(1).size();
            case 11: return now.debts.stream().filter(d -> d[0] == pupil).mapToInt(d -> d[3]).sum();
            case 12: return now.debts.stream().filter(d -> d[1] == pupil).mapToInt(d -> d[3]).sum();
            default: return m.witnesses.size();
        }
    }

    int piece(int pupil, int subject, int place) {
        Member m = member(pupil);
        range(subject, 0, 1);
        List<Integer> satchel = m.satchels.get(subject);
        return place >= 0 && place < satchel.size() ? satchel.get(place) : -1;
    }

    int madeBy(int pupil, int subject, int maker) {
        Member m = member(pupil);
        member(maker);
        range(subject, 0, 1);
        return (int) m.satchels.get(subject).stream().filter(k -> k == maker).count();
    }

    int debt(int debt, int what) {
        if (debt < 0 || debt >= now.debts.size()) throw new IndexOutOfBoundsException();
        range(what, 0, 3);
        return now.debts.get(debt)[what];
    }

    private int[] debtBetween(int pupil, int other, int subject) {
        for (int[] d : now.debts) {
            if (d[0] == pupil && d[1] == other && d[2] == subject) return d;
        }
        return null;
    }

    int owes(int pupil, int other, int subject) {
        member(pupil);
        member(other);
        range(subject, 0, 1);
        int[] d = debtBetween(pupil, other, subject);
        return d == null ? 0 : d[3];
    }

    boolean isNear(int pupil, int other) {
        member(pupil);
        return member(pupil).near(member(other).row, member(other).seat);
    }

    int witness(int pupil, int place) {
        List<Integer> all = new ArrayList<>(member(pupil).witnesses);
        return place >= 0 && place < all.size() ? all.get(place) : -1;
    }

    int bench(int row, int seat) {
        range(row, 0, 5);
        range(seat, 0, 5);
        for (int i = 0; i < size(); i++) {
            if (now.members.get(i).row == row && now.members.get(i).seat == seat) return i;
        }
        return -1;
    }

    // ---- reasons, accounts

    private List<Integer> seersOf(int pupil, int other) {
        List<Integer> all = new ArrayList<>();
        for (int i = 0; i < size(); i++) {
            Member m = now.members.get(i);
            boolean sees = isNear(i, pupil) || isNear(i, other);
            if (m.spy && m.detention == 0 && sees && i != pupil && i != other) all.add(i);
        }
        return all;
    }

    int seers(int pupil, int other) {
        member(pupil);
        member(other);
        if (pupil == other) throw new IllegalArgumentException();
        return seersOf(pupil, other).size();
    }

    int why(int pupil, int depth) {
        Member m = member(pupil);
        range(depth, 0, 1);
        State later = now.copy();
        int punished = later.endWeek();
        Member then = later.members.get(pupil);
        int looked = m.proof + later.growthAtHandingIn[pupil];
        int debt = -1;
        for (int i = now.debts.size() - 1; i >= 0; i--) {
            int[] d = now.debts.get(i);
            if (d[0] == pupil && d[3] > m.satchels.get(d[2]).size()) debt = i;
        }
        int stands = m.detention > 0 ? 1
            : punished > 0 && looked >= now.limit ? 2
            : then.marks > m.marks ? 3
            : debt >= 0 ? 4 : 5;
        int[] causes = {0, m.detention, looked, then.marks - m.marks, debt, m.strength};
        return depth == 0 ? stands : 100 * stands + causes[stands];
    }

    int most(int what) {
        range(what, 0, 4);
        int best = -1;
        int bestNumber = -1;
        for (int i = 0; i < size(); i++) {
            int n = what == 0 ? pupil(i, 7) : what == 1 ? pupil(i, 6) : what == 2 ? pupil(i, 11)
                : what == 3 ? pupil(i, 12) : pupil(i, 9) + pupil(i, 10);
            if (n > bestNumber) {
                best = i;
                bestNumber = n;
            }
        }
        return best;
    }

    int ranked(int subject, int place) {
        range(subject, 0, 1);
        List<Integer> order = new ArrayList<>();
        for (int i = 0; i < size(); i++) order.add(i);
        order.sort((a, b) -> now.members.get(b).skill[subject] - now.members.get(a).skill[subject]);
        return place >= 0 && place < size() ? order.get(place) : -1;
    }

    int mostOf(int subject) {
        range(subject, 0, 1);
        int best = 0;
        for (int i = 0; i < size(); i++) {
            if (pupil(i, 9 + subject) > pupil(best, 9 + subject)) best = i;
        }
        return best;
    }

    int makers(int pupil, int subject) {
        Member m = member(pupil);
        range(subject, 0, 1);
        return new HashSet<>(m.satchels.get(subject)).size();
    }

    int needs(int pupil, int subject) {
        Member m = member(pupil);
        range(subject, 0, 1);
        return Math.max(0, now.due[subject] - m.satchels.get(subject).size());
    }

    int nearTo(int pupil, int place) {
        member(pupil);
        List<Integer> all = new ArrayList<>();
        for (int i = 0; i < size(); i++) {
            if (i != pupil && isNear(i, pupil)) all.add(i);
        }
        return place >= 0 && place < all.size() ? all.get(place) : -1;
    }

    int debtOf(int pupil, int place) {
        member(pupil);
        List<Integer> all = new ArrayList<>();
        for (int i = 0; i < now.debts.size(); i++) {
            if (now.debts.get(i)[0] == pupil) all.add(i);
        }
        return place >= 0 && place < all.size() ? all.get(place) : -1;
    }

    boolean canPay(int debt) {
        if (debt < 0 || debt >= now.debts.size()) throw new IndexOutOfBoundsException();
        int[] d = now.debts.get(debt);
        return d[3] <= 20 && whyNotPay(d[0], d[1], d[2], d[3]) == 0;
    }

    int refusals(int reason) {
        range(reason, 1, 10);
        return refused[reason];
    }

    int gap() {
        return 0;
    }

    double meanMarks() {
        return (double) now.members.stream().mapToInt(m -> m.marks).sum() / (double) size();
    }

    float ownShare(int pupil) {
        member(pupil);
        int own = madeBy(pupil, 0, pupil) + madeBy(pupil, 1, pupil);
        int all = pupil(pupil, 9) + pupil(pupil, 10);
        return all == 0 ? 0.0f : (float) own / (float) all;
    }

    // ---- what would be

    int couldMake(int pupil, int subject) {
        Member m = member(pupil);
        range(subject, 0, 1);
        int pieces = 0;
        while ((pieces + 1) * (10 - m.skill[subject]) <= m.strength) pieces++;
        return pieces;
    }

    int ifWeek(int pupil, int what) {
        Member m = member(pupil);
        range(what, 0, 2);
        State later = now.copy();
        later.endWeek();
        Member then = later.members.get(pupil);
        return what == 0 ? then.marks - m.marks : what == 1 ? later.growthAtHandingIn[pupil] : then.detention;
    }

    int ifPassed(int weeks, int what) {
        range(weeks, 0, 30);
        range(what, 0, 3);
        State then = now;
        now = then.copy();
        for (int i = 0; i < weeks; i++) now.endWeek();
        int marks = now.members.stream().mapToInt(m -> m.marks).sum();
        int answer = what == 0 ? marks : what == 1 ? count(9) : what == 2 ? count(10) : count(6) + count(7);
        now = then;
        return answer;
    }

    int freeIn(int pupil) {
        member(pupil);
        State later = now.copy();
        for (int weeks = 0; weeks <= 30; weeks++) {
            if (later.members.get(pupil).detention == 0) return weeks;
            later.endWeek();
        }
        return -1;
    }

    int ifMoved(int pupil, int row, int seat) {
        member(pupil);
        range(row, 0, 5);
        range(seat, 0, 5);
        int spies = 0;
        for (int i = 0; i < size(); i++) {
            Member m = now.members.get(i);
            if (i != pupil && m.spy && m.detention == 0 && m.near(row, seat)) spies++;
        }
        return spies;
    }

    private void testSwap(int pupil, int other, int sums, int verses) {
        member(pupil);
        member(other);
        range(sums, 0, 20);
        range(verses, 0, 20);
    }

    private void testLoan(int pupil, int other, int subject, int pieces) {
        member(pupil);
        member(other);
        range(subject, 0, 1);
        range(pieces, 1, 20);
    }

    int whySwap(int pupil, int other, int sums, int verses) {
        testSwap(pupil, other, sums, verses);
        Member a = member(pupil);
        Member b = member(other);
        if (pupil == other) return 5;
        if (a.detention > 0) return 1;
        if (b.detention > 0) return 1;
        if (sums > a.satchels.get(0).size()) return 4;
        if (verses > b.satchels.get(1).size()) return 4;
        if (b.satchels.get(0).size() + sums > 20) return 3;
        if (a.satchels.get(1).size() + verses > 20) return 3;
        return 0;
    }

    int whyLend(int pupil, int other, int subject, int pieces) {
        testLoan(pupil, other, subject, pieces);
        Member a = member(pupil);
        Member b = member(other);
        if (pupil == other) return 5;
        if (a.detention > 0 || b.detention > 0) return 1;
        if (pieces > a.satchels.get(subject).size()) return 4;
        if (b.satchels.get(subject).size() + pieces > 20) return 3;
        int[] d = debtBetween(other, pupil, 1 - subject);
        if (d == null && now.debts.size() == 30) return 9;
        if (d != null && d[3] + pieces > 99) return 9;
        return 0;
    }

    private int whyNotPay(int pupil, int other, int subject, int pieces) {
        Member a = member(pupil);
        Member b = member(other);
        if (pupil == other) return 5;
        if (owes(pupil, other, subject) < pieces) return 6;
        if (a.detention > 0 || b.detention > 0) return 1;
        if (pieces > a.satchels.get(subject).size()) return 4;
        if (b.satchels.get(subject).size() + pieces > 20) return 3;
        return 0;
    }

    int safestBench(int pupil) {
        member(pupil);
        int best = -1;
        int fewest = 99;
        for (int row = 0; row < 6; row++) {
            for (int seat = 0; seat < 6; seat++) {
                if (bench(row, seat) < 0 && ifMoved(pupil, row, seat) < fewest) {
                    fewest = ifMoved(pupil, row, seat);
                    best = 6 * row + seat;
                }
            }
        }
        return best;
    }

    int safestPartner(int pupil) {
        member(pupil);
        int best = -1;
        int fewest = 99;
        for (int i = 0; i < size(); i++) {
            if (i == pupil || now.members.get(i).detention > 0) continue;
            if (seers(pupil, i) < fewest) {
                fewest = seers(pupil, i);
                best = i;
            }
        }
        return best;
    }

    int drownsIn(int pupil, int subject) {
        member(pupil);
        range(subject, 0, 1);
        State later = now.copy();
        for (int weeks = 0; weeks < 100; weeks++) {
            int owed = later.debts.stream().filter(d -> d[0] == pupil && d[2] == subject).mapToInt(d -> d[3]).sum();
            if (owed == 0) return -1;
            if (owed > 20) return weeks;
            later.endWeek();
        }
        return -1;
    }

    // ---- acts

    private int refuse(int reason) {
        refused[reason]++;
        return -reason;
    }

    private void remember() {
        past.add(now.copy());
        if (past.size() > 6) past.remove(0);
    }

    private void give(int from, int to, int subject, int pieces) {
        for (int i = 0; i < pieces; i++) {
            member(to).satchels.get(subject).add(member(from).satchels.get(subject).remove(0));
        }
    }

    private int barterIsSeen(int pupil, int other) {
        List<Integer> spies = seersOf(pupil, other);
        for (int spy : spies) {
            member(pupil).proof++;
            member(other).proof++;
            member(pupil).witnesses.add(spy);
            member(other).witnesses.add(spy);
            now.tallies[7]++;
        }
        return spies.size();
    }

    int work(int pupil, int subject, int pieces) {
        Member m = member(pupil);
        range(subject, 0, 1);
        range(pieces, 1, 20);
        int cost = pieces * (10 - m.skill[subject]);
        if (cost > m.strength) return refuse(2);
        if (m.satchels.get(subject).size() + pieces > 20) return refuse(3);
        remember();
        m = member(pupil);
        m.strength -= cost;
        for (int i = 0; i < pieces; i++) m.satchels.get(subject).add(pupil);
        now.tallies[subject] += pieces;
        return m.strength;
    }

    int swap(int pupil, int other, int sums, int verses) {
        int reason = whySwap(pupil, other, sums, verses);
        if (reason > 0) return refuse(reason);
        remember();
        give(pupil, other, 0, sums);
        give(other, pupil, 1, verses);
        now.tallies[2]++;
        return barterIsSeen(pupil, other);
    }

    int lend(int pupil, int other, int subject, int pieces) {
        int reason = whyLend(pupil, other, subject, pieces);
        if (reason > 0) return refuse(reason);
        remember();
        give(pupil, other, subject, pieces);
        now.tallies[3]++;
        barterIsSeen(pupil, other);
        int[] d = debtBetween(other, pupil, 1 - subject);
        if (d == null) {
            d = new int[] {other, pupil, 1 - subject, 0};
            now.debts.add(d);
        }
        d[3] += pieces;
        return d[3];
    }

    int payBack(int pupil, int other, int subject, int pieces) {
        testLoan(pupil, other, subject, pieces);
        int reason = whyNotPay(pupil, other, subject, pieces);
        if (reason > 0) return refuse(reason);
        remember();
        give(pupil, other, subject, pieces);
        now.tallies[4] += pieces;
        barterIsSeen(pupil, other);
        int[] d = debtBetween(pupil, other, subject);
        d[3] -= pieces;
        if (d[3] == 0) now.debts.remove(d);
        return d[3];
    }

    int move(int pupil, int row, int seat) {
        Member m = member(pupil);
        range(row, 0, 5);
        range(seat, 0, 5);
        if (m.detention > 0) return refuse(1);
        if (bench(row, seat) >= 0) return refuse(7);
        remember();
        m.row = row;
        m.seat = seat;
        int near = 0;
        for (Member other : now.members) {
            if (other != m && other.near(row, seat)) near++;
        }
        return near;
    }

    int confess(int pupil) {
        Member m = member(pupil);
        if (m.proof == 0) return refuse(8);
        remember();
        m.proof /= 2;
        m.witnesses.clear();
        m.marks++;
        return m.proof;
    }

    int pass(int weeks) {
        range(weeks, 1, 10);
        if (now.week + weeks > 999) return refuse(10);
        remember();
        int punished = 0;
        for (int i = 0; i < weeks; i++) punished += now.endWeek();
        return punished;
    }

    // ---- output

    int write(int pupil) {
        Member m = member(pupil);
        StringBuilder out = new StringBuilder();
        for (int maker : m.satchels.get(0)) out.append((char) ('a' + maker));
        out.append('/');
        for (int maker : m.satchels.get(1)) out.append((char) ('a' + maker));
        for (int[] d : now.debts) {
            if (d[0] == pupil) out.append(' ').append((char) ('a' + d[1])).append("sv".charAt(d[2])).append(d[3]);
        }
        written = out.toString();
        return written.length();
    }

    int output(int index) {
        return index >= 0 && index < written.length() ? written.charAt(index) : -1;
    }

    // ---- undo, saved states

    int undo() {
        if (past.isEmpty()) return -1;
        now = past.remove(past.size() - 1);
        return past.size();
    }

    void save(int slot) {
        range(slot, 0, 1);
        slots[slot] = now.copy();
    }

    void restore(int slot) {
        range(slot, 0, 1);
        if (slots[slot] == null) throw new IllegalStateException();
        now = slots[slot].copy();
        past.clear();
    }
}
