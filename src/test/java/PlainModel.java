import java.util.ArrayList;
import java.util.HashMap;
import java.util.HashSet;
import java.util.List;
import java.util.Map;
import java.util.Set;
import java.util.TreeMap;
import java.util.TreeSet;

/**
 * The document once more, written another way and without a thought for room or speed: routes are followed step by
 * step, texts are cut apart each time they are worked out, what is due is looked for from day 0 on. RandomRunsTest holds
 * the class against it.
 */
final class PlainModel {
    private static final long MOST = 1000000000L;

    private static final class No extends RuntimeException {
        private static final long serialVersionUID = 1L;
        private final int number;

        private No(int number) {
            super(null, null, false, false);
            this.number = number;
        }
    }

    private static final class Acc {
        private int bank, name, joint, over, state, to = -9, movedDay = -9;
        private long pence, good;
        private final Map<Integer, Long> was = new HashMap<>();
    }

    private static final class Ln {
        private int kind, from, to, pence, first, every, endDay = 100000, last = -9;
        private final int[] times = new int[5];
        private final Set<Integer> handled = new HashSet<>();
    }

    private static final class Mv {
        private int old, fresh, steps, why, askDay, last = -9;
        private boolean on = true, partly, agreed;
        private final List<Integer> faults = new ArrayList<>();
    }

    private static final class Rl {
        private int purpose, day;
        private String text;
    }

    int day = 0;
    private int nights = 0;
    private final TreeSet<Integer> holidays = new TreeSet<>();
    private final Set<Integer> late = new HashSet<>();
    private final int[] fee = new int[8];
    private final int[] cap = {99, 99, 99, 99, 99, 99, 99, 99};
    private final long[] owed = new long[8];
    private final long[] nets = new long[8];
    private final List<Acc> accs = new ArrayList<>();
    private final List<Ln> lns = new ArrayList<>();
    private final List<Mv> mvs = new ArrayList<>();
    private final List<Rl> rls = new ArrayList<>();
    private String tape = "";
    private final List<Long> row = new ArrayList<>();
    private final List<Integer> asks = new ArrayList<>();
    private final int[] no = new int[7];

    int accounts() {
        return accs.size();
    }

    int lines() {
        return lns.size();
    }

    int moves() {
        return mvs.size();
    }

    long call(String op, long[] a) {
        try {
            return answer(op, a);
        } catch (No refusal) {
            no[-refusal.number]++;
            boolean isLong = op.equals("put") || op.equals("sum") || op.equals("was") || op.equals("net");
            return isLong ? 4000000000000000000L - refusal.number : refusal.number;
        }
    }

    private static void unless(boolean fine, int refusal) {
        if (!fine) {
            throw new No(refusal);
        }
    }

    private long answer(String op, long[] a) {
        int p = a.length > 0 ? (int) a[0] : 0;
        int q = a.length > 1 ? (int) a[1] : 0;
        int r = a.length > 2 ? (int) a[2] : 0;
        switch (op) {
            case "days": return days(p);
            case "holiday":
                unless(p >= day, -4);
                unless(p <= 1500 && holidays.size() < 20, -6);
                unless(holidays.add(p), -3);
                return holidays.size();
            case "isWorking": within(p, 0, 1500); return works(p) ? 1 : 0;
            case "bank": {
                bankThere(p);
                unless(q == 0 || q == 1, -2);
                within(r, 0, q == 0 ? 999 : 99);
                int[] which = q == 0 ? fee : cap;
                int before = which[p];
                which[p] = r;
                return before;
            }
            case "late":
                bankThere(p);
                unless(q < 0 || q > 1500 || !late.contains(q * 8 + p), -3);
                unless(q >= day, -4);
                unless(q <= 1500 && late.size() < 60, -6);
                late.add(q * 8 + p);
                return late.size();
            case "account":
                bankThere(p);
                unless(q >= 0 && r >= -1, -4);
                unless(q <= 9999 && r <= 9999 && accs.size() < 40, -6);
                return open(p, q, r);
            case "put": {
                Acc it = acc(p);
                unless(it.state == 0, -3);
                within(q, 1, 99999);
                return it.pence += q;
            }
            case "over": {
                Acc it = acc(p);
                within(q, 0, 99999);
                int before = it.over;
                it.over = q;
                return before;
            }
            case "close": {
                Acc it = acc(p);
                unless(it.state == 0 && it.pence == 0 && !moving(p), -3);
                it.state = 1;
                return 1;
            }
            case "sum": return acc(p).pence;
            case "was":
                acc(p);
                unless(q >= 0, -4);
                unless(q < day, -6);
                return acc(p).was.getOrDefault(q, 0L);
            case "accountOf": {
                Acc it = acc(p);
                unless(q >= 0 && q <= 6, -2);
                return new long[] {it.bank, it.state, it.to, it.movedDay, last(p), it.over, it.good}[q];
            }
            case "sends": acc(p); within(q, 0, 1500); return sentTo(p, q);
            default: return answerMore(op, a, p, q, r);
        }
    }

    private long answerMore(String op, long[] a, int p, int q, int r) {
        switch (op) {
            case "feed":
                unless(p >= 1, -4);
                unless(p <= 8 && tape.length() + p <= 60, -6);
                for (int i = 0; i < p; i++) {
                    tape += (char) ((a[1] >>> (8 * i)) & 255);
                }
                return tape.length();
            case "rule": {
                unless(p >= 0 && p <= 3, -2);
                unless(q >= day, -4);
                unless(q <= 1500 && rls.size() < 30, -6);
                int fault = fault(tape);
                String text = tape;
                tape = "";
                if (fault >= 0) {
                    return -20 - fault;
                }
                Rl it = new Rl();
                it.purpose = p;
                it.day = q;
                it.text = text;
                rls.add(it);
                return rls.size();
            }
            case "line": return line(a);
            case "end":
                unless(p >= 0 && p < lns.size(), -1);
                unless(lns.get(p).endDay == 100000, -3);
                lns.get(p).endDay = day;
                return 1;
            case "lineOf": {
                unless(p >= 0 && p < lns.size(), -1);
                unless(q >= 0 && q <= 8, -2);
                Ln it = lns.get(p);
                int[] t = it.times;
                return new int[] {it.kind, it.from, it.to, t[0], t[1], t[2], t[3], t[4], it.last}[q];
            }
            case "ask": return ask(p, q, r != 0);
            case "agree": {
                Mv it = mv(p);
                unless(accs.get(it.old).joint != -1 && !it.agreed && it.on, -3);
                it.agreed = true;
                return 1;
            }
            case "takeBack":
                unless(mv(p).on && mv(p).steps < 6, -3);
                refused(mv(p), 3);
                return 1;
            case "moveOf": {
                Mv it = mv(p);
                unless(q >= 0 && q <= 8, -2);
                int first = it.faults.isEmpty() ? -9 : it.faults.get(0);
                return new int[] {it.old, it.fresh, it.steps, it.on ? 1 : 0, it.why, it.faults.size(), first, it.askDay,
                    it.last}[q];
            }
            case "owes": bankThere(p); return owed[p];
            case "like": acc(p); within(q, 0, 9999); return like(acc(p), q);
            case "rivals": bankThere(p); within(q, 0, 9999); return rivalsOf(p, q).size();
            case "rival": {
                bankThere(p);
                within(q, 0, 9999);
                List<Integer> all = rivalsOf(p, q);
                return r >= 0 && r < all.size() ? all.get(r) : -9;
            }
            case "net": bankThere(p); return nets[p];
            case "tell":
                unless(row.size() < 8, -6);
                row.add(a[0]);
                return row.size();
            case "check": {
                unless(row.size() == 8, -3);
                int found = -9;
                for (int i = 7; i >= 0; i--) {
                    found = row.get(i) != nets[i] ? i : found;
                }
                row.clear();
                return found;
            }
            case "surge":
                unless(p >= 0, -4);
                unless(p <= 127 && asks.size() < 9, -6);
                asks.add(p);
                return asks.size();
            case "least": return least();
            case "tooLate": {
                within(p, 0, 999);
                int found = tooLate(p);
                asks.clear();
                return found;
            }
            case "count": return count(p);
            default: throw new IllegalArgumentException(op);
        }
    }

    private static void within(int v, int least, int most) {
        unless(v >= least, -4);
        unless(v <= most, -6);
    }

    private static void bankThere(int b) {
        unless(b >= 0 && b < 8, -1);
    }

    private Acc acc(int i) {
        unless(i >= 0 && i < accs.size(), -1);
        return accs.get(i);
    }

    private Mv mv(int i) {
        unless(i >= 0 && i < mvs.size(), -1);
        return mvs.get(i);
    }

    private int open(int bank, int name, int joint) {
        Acc it = new Acc();
        it.bank = bank;
        it.name = name;
        it.joint = joint;
        accs.add(it);
        return accs.size() - 1;
    }

    private boolean works(int d) {
        return d % 7 < 5 && !holidays.contains(d);
    }

    private boolean moving(int account) {
        return mvs.stream().anyMatch(m -> m.on && (m.old == account || m.fresh == account));
    }

    private int last(int account) {
        return accs.get(account).state == 2 ? last(accs.get(account).to) : account;
    }

    private int sentTo(int account, int on) {
        Acc it = accs.get(account);
        if (it.state != 2) {
            return account;
        }
        int since = on - it.movedDay;
        long worth = worth(1, on, 1095, Map.of('b', (long) it.bank, 't', (long) accs.get(it.to).bank, 'd', (long) since));
        return since <= worth ? sentTo(it.to, on) : -9;
    }

    private long line(long[] a) {
        int kind = (int) a[0];
        int from = (int) a[1];
        int to = (int) a[2];
        int pence = (int) a[3];
        int first = (int) a[4];
        int every = kind == 0 ? 1 : (int) a[5];
        unless(kind >= 0 && kind <= 3, -2);
        acc(from);
        acc(to);
        unless(from != to, -1);
        unless(pence >= 1 && first >= day && every >= 1, -4);
        unless(pence <= 99999 && first <= 1500 && every <= 90 && lns.size() < 60, -6);
        Ln it = new Ln();
        it.kind = kind;
        it.from = from;
        it.to = to;
        it.pence = pence;
        it.first = first;
        it.every = kind == 0 ? 1000000 : every;
        lns.add(it);
        return lns.size() - 1;
    }

    private long linesFrom(int account) {
        return lns.stream().filter(x -> x.endDay == 100000 && x.from == account).count();
    }

    private Map<Character, Long> leaving(int account, int bank) {
        Acc it = accs.get(account);
        Map<Character, Long> letters = new HashMap<>();
        letters.put('b', (long) it.bank);
        letters.put('t', (long) bank);
        letters.put('s', it.pence);
        letters.put('o', (long) it.over);
        letters.put('j', it.joint == -1 ? 0L : 1L);
        letters.put('l', linesFrom(account));
        return letters;
    }

    private long ask(int account, int bank, boolean partly) {
        acc(account);
        bankThere(bank);
        Acc it = accs.get(account);
        unless(it.state == 0 && !moving(account) && it.bank != bank, -3);
        unless(worth(0, day, 1, leaving(account, bank)) > 0, -3);
        unless(mvs.size() < 30 && accs.size() < 40, -6);
        Mv move = new Mv();
        move.old = account;
        move.fresh = open(bank, it.name, it.joint);
        move.partly = partly;
        move.askDay = day;
        mvs.add(move);
        return mvs.size() - 1;
    }

    private void refused(Mv move, int why) {
        move.on = false;
        move.why = why;
        accs.get(move.old).pence += accs.get(move.fresh).pence;
        accs.get(move.fresh).pence = 0;
        accs.get(move.fresh).state = 1;
    }

    private long days(int n) {
        unless(n >= 1, -4);
        unless((long) day + n <= 1500, -6);
        for (int i = 0; i < n; i++) {
            if (works(day)) {
                night();
            }
            for (Acc it : accs) {
                it.was.put(day, it.pence);
            }
            day++;
        }
        return day;
    }

    private void night() {
        nights++;
        java.util.Arrays.fill(nets, 0);
        int[] steps = new int[8];
        for (Mv move : mvs) {
            if (move.on && day > move.askDay) {
                moveOn(move, steps);
            }
        }
        TreeMap<Integer, Ln> due = new TreeMap<>();
        for (int i = 0; i < lns.size(); i++) {
            Ln it = lns.get(i);
            for (int d = it.first; d <= day && d < it.endDay; d += it.every) {
                if (!it.handled.contains(d)) {
                    it.handled.add(d);
                    due.put(d * 100 + i, it);
                }
            }
        }
        due.values().forEach(this::carryOut);
    }

    private void moveOn(Mv move, int[] steps) {
        Acc old = accs.get(move.old);
        Acc fresh = accs.get(move.fresh);
        boolean oldLate = late.contains(day * 8 + old.bank);
        boolean freshLate = late.contains(day * 8 + fresh.bank);
        if (oldLate || freshLate) {
            move.faults.add(oldLate ? old.bank : fresh.bank);
            return;
        }
        if (steps[old.bank] >= cap[old.bank] || steps[fresh.bank] >= cap[fresh.bank]) {
            return;
        }
        steps[old.bank]++;
        steps[fresh.bank]++;
        move.steps++;
        move.last = day;
        if (move.steps == 3 && old.joint != -1 && !move.agreed) {
            refused(move, 1);
        }
        if (move.steps == 5 && !move.partly && old.pence < 0) {
            Map<Character, Long> letters = leaving(move.old, fresh.bank);
            letters.put('d', (long) (day - move.askDay));
            if (worth(2, day, 1, letters) > 0) {
                refused(move, 2);
            }
        }
        if (move.steps == 6) {
            lns.stream().filter(x -> x.from == move.old && (!move.partly || x.kind == 1)).forEach(x -> x.from = move.fresh);
        }
        if (move.steps == 7) {
            move.on = false;
            if (!move.partly) {
                long all = old.pence;
                give(move.old, move.fresh, all);
                old.state = 2;
                old.to = move.fresh;
                old.movedDay = day;
            }
        }
    }

    private void give(int from, int to, long pence) {
        Acc a = accs.get(from);
        Acc b = accs.get(to);
        a.pence -= pence;
        b.pence += pence;
        if (a.bank != b.bank) {
            nets[a.bank] -= pence;
            nets[b.bank] += pence;
        }
    }

    private void carryOut(Ln it) {
        int from = it.kind == 2 ? sentTo(it.from, day) : last(it.from);
        int to = sentTo(it.to, day);
        int why = 0;
        if (from == -9 || to == -9) {
            why = 3;
        } else if (accs.get(from).state == 1 || accs.get(to).state == 1) {
            why = 2;
        } else if (from == to) {
            why = 4;
        } else if (accs.get(from).pence - it.pence < -accs.get(from).over) {
            why = 1;
        }
        it.times[why]++;
        if (why == 0) {
            give(from, to, it.pence);
            it.last = day;
            return;
        }
        int payer = from == -9 ? it.from : from;
        Acc who = accs.get(payer);
        if (why == 1) {
            who.pence -= fee[who.bank];
        }
        for (Mv move : mvs) {
            if (!move.faults.isEmpty() && (move.old == payer || move.fresh == payer)) {
                Map<Character, Long> letters =
                    Map.of('b', (long) who.bank, 'n', (long) it.pence, 'f', (long) fee[who.bank], 'w', (long) why);
                long good = Math.max(0, worth(3, day, fee[who.bank], letters));
                who.pence += good;
                who.good = Math.min(MOST, who.good + good);
                int owing = move.faults.get(0);
                owed[owing] = Math.min(MOST, owed[owing] + good);
                return;
            }
        }
    }

    private static int like(Acc it, int name) {
        int best = 0;
        for (int own : it.joint == -1 ? new int[] {it.name} : new int[] {it.name, it.joint}) {
            String x = String.format("%04d", own);
            String y = String.format("%04d", name);
            int same = 0;
            for (int i = 0; i < 4; i++) {
                same += x.charAt(i) == y.charAt(i) ? 1 : 0;
            }
            best = Math.max(best, same - 2);
        }
        return best;
    }

    private List<Integer> rivalsOf(int bank, int name) {
        for (int level = 2; level >= 1; level--) {
            List<Integer> found = new ArrayList<>();
            for (int i = 0; i < accs.size(); i++) {
                Acc it = accs.get(i);
                if (it.bank == bank && it.state == 0 && like(it, name) == level) {
                    found.add(i);
                }
            }
            if (!found.isEmpty()) {
                return found;
            }
        }
        return new ArrayList<>();
    }

    private int least() {
        int tried = 0;
        while (tooLate(tried) != -9) {
            tried++;
        }
        return tried;
    }

    /** Each ask stands in a line by the day on which it came. */
    private int tooLate(int most) {
        List<Integer> waiting = new ArrayList<>();
        for (int d = 0; d < 12; d++) {
            for (int i = 0; d < asks.size() && i < asks.get(d); i++) {
                waiting.add(d);
            }
            waiting = waiting.subList(Math.min(most, waiting.size()), waiting.size());
            waiting = new ArrayList<>(waiting);
            if (!waiting.isEmpty() && waiting.get(0) <= d - 2) {
                return d;
            }
        }
        return -9;
    }

    private long count(int what) {
        switch (what) {
            case 0: return day;
            case 1: return accs.size();
            case 2: return accs.stream().filter(x -> x.state == 0).count();
            case 3: return lns.stream().filter(x -> x.endDay == 100000).count();
            case 4: return mvs.size();
            case 5: return mvs.stream().filter(x -> x.on).count();
            case 6: return rls.size();
            case 7: return tape.length();
            case 8: return row.size();
            case 9: return asks.size();
            case 10: return nights;
            default: return what >= 11 && what <= 16 ? no[what - 10] : -9;
        }
    }

    /** The place of the fault, or -1: by what may follow, without taking the text apart. */
    static int fault(String text) {
        List<Boolean> open = new ArrayList<>();
        boolean wanted = true;
        int digits = 0;
        for (int i = 0; i < text.length(); i++) {
            char c = text.charAt(i);
            boolean digit = c >= '0' && c <= '9';
            int top = open.size() - 1;
            if (wanted && digit) {
                wanted = false;
                digits = 1;
            } else if (wanted && "btsojlnfwd".indexOf(c) >= 0) {
                wanted = false;
                digits = 5;
            } else if (wanted && c == '(' && open.size() < 5) {
                open.add(false);
            } else if (!wanted && digit && digits < 5) {
                digits++;
            } else if (!wanted && "+-*/".indexOf(c) >= 0) {
                wanted = true;
            } else if (!wanted && "<=>".indexOf(c) >= 0 && top >= 0 && !open.get(top)) {
                open.set(top, true);
                wanted = true;
            } else if (!wanted && c == ')' && top >= 0) {
                open.remove(top);
                digits = 5;
            } else {
                return i;
            }
        }
        return wanted || !open.isEmpty() ? text.length() : -1;
    }

    private long worth(int purpose, int on, long usual, Map<Character, Long> letters) {
        Rl found = null;
        for (Rl it : rls) {
            if (it.purpose == purpose && it.day <= on && (found == null || found.day <= it.day)) {
                found = it;
            }
        }
        return found == null ? usual : workOut(found.text, letters);
    }

    private static long held(long v) {
        return v > MOST ? MOST : v < -MOST ? -MOST : v;
    }

    /** The place of the last sign of these that stands in no bracket, or -1. */
    private static int lastOutside(String text, String signs) {
        int deep = 0;
        for (int i = text.length() - 1; i >= 0; i--) {
            char c = text.charAt(i);
            deep += c == ')' ? 1 : c == '(' ? -1 : 0;
            if (deep == 0 && signs.indexOf(c) >= 0) {
                return i;
            }
        }
        return -1;
    }

    static long workOut(String text, Map<Character, Long> letters) {
        for (String signs : new String[] {"<=>", "+-", "*/"}) {
            int at = lastOutside(text, signs);
            if (at >= 0) {
                long a = workOut(text.substring(0, at), letters);
                long b = workOut(text.substring(at + 1), letters);
                switch (text.charAt(at)) {
                    case '<': return a < b ? 1 : 0;
                    case '=': return a == b ? 1 : 0;
                    case '>': return a > b ? 1 : 0;
                    case '+': return held(a + b);
                    case '-': return held(a - b);
                    case '*': return held(a * b);
                    default: return b == 0 ? 0 : held(a / b);
                }
            }
        }
        if (text.charAt(0) == '(') {
            return workOut(text.substring(1, text.length() - 1), letters);
        }
        if (Character.isDigit(text.charAt(0))) {
            return Long.parseLong(text);
        }
        return held(letters.getOrDefault(text.charAt(0), 0L));
    }
}
