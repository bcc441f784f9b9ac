import java.util.ArrayList;
import java.util.Arrays;

/** Accounts that change banks in seven steps; the document's promises say what each call answers. */
public final class SwitchSeven {
    private static final int FINE = 0;
    private static final int NOBODY = -1;
    private static final int OTHER = -2;
    private static final int STATE = -3;
    private static final int BELOW = -4;
    private static final int ROOM = -6;
    private static final int NONE = -9;
    private static final int FAULTY_TEXT = -20;
    private static final long LONG_REFUSAL = 4000000000000000000L;
    private static final int REFUSAL_KINDS = 6;

    private static final int LAST_DAY = 1500;
    private static final int MAX_HOLIDAYS = 20;
    private static final int MAX_LATE = 60;
    private static final int BANKS = 8;
    private static final int MAX_FEE = 999;
    private static final int MAX_CAP = 99;
    private static final int MAX_ACCOUNTS = 40;
    private static final int MAX_NAME = 9999;
    private static final int MAX_PENCE = 99999;
    private static final int MAX_LINES = 60;
    private static final int MAX_EVERY = 90;
    private static final int MAX_MOVES = 30;
    private static final int MAX_RULES = 30;
    private static final int MAX_TAPE = 60;
    private static final int MAX_SURGE_DAYS = 9;
    private static final int MAX_SURGE = 127;
    private static final int MAX_TRIED_CAP = 999;
    private static final long MOST = 1000000000L;

    private static final int OPEN = 0;
    private static final int CLOSED = 1;
    private static final int MOVED = 2;

    private static final int PAYMENT = 0;
    private static final int ORDER = 1;
    private static final int PULL = 2;
    private static final int LAST_KIND = 3;

    private static final int WHY_SUM = 1;
    private static final int WHY_CLOSED = 2;
    private static final int WHY_NOT_SENT = 3;
    private static final int WHY_ONE = 4;

    private static final int NOT_AGREED = 1;
    private static final int OVERDRAFT = 2;
    private static final int TAKEN_BACK = 3;

    private static final int FOR_ASK = 0;
    private static final int FOR_SENDS = 1;
    private static final int FOR_OVERDRAWN = 2;
    private static final int FOR_GOOD = 3;
    private static final int USUAL_SENDS = 1095;

    private static final String LETTERS = "btsojlnfwd";
    private static final int B = 0;
    private static final int T = 1;
    private static final int S = 2;
    private static final int O = 3;
    private static final int J = 4;
    private static final int L = 5;
    private static final int N = 6;
    private static final int F = 7;
    private static final int W = 8;
    private static final int D = 9;

    private final Calendar calendar;
    private final Bank[] banks;
    private final ArrayList<Account> accounts;
    private final ArrayList<Line> lines;
    private final ArrayList<Move> moves;
    private final RuleBook rules;
    private final Tape tape;
    private final Surge asks;
    private final long[] row;
    private int rowSize;
    private final int[] refusals;

    public SwitchSeven() {
        calendar = new Calendar();
        banks = new Bank[BANKS];
        for (int i = 0; i < BANKS; i++) {
            banks[i] = new Bank(i);
        }
        accounts = new ArrayList<Account>();
        lines = new ArrayList<Line>();
        moves = new ArrayList<Move>();
        rules = new RuleBook();
        tape = new Tape();
        asks = new Surge();
        row = new long[BANKS];
        rowSize = 0;
        refusals = new int[REFUSAL_KINDS + 1];
    }

    // ---- days ----

    public int days(int n) {
        int no = outside(n, 1, LAST_DAY - calendar.today);
        if (no != FINE) {
            return refuse(no);
        }
        for (int i = 0; i < n; i++) {
            if (calendar.works(calendar.today)) {
                beginNight();
                doMoves();
                findRoutes(calendar.today);
                doLines();
            }
            keepSums();
            calendar.today++;
        }
        return calendar.today;
    }

    public int holiday(int day) {
        if (day < calendar.today) {
            return refuse(BELOW);
        }
        if (day > LAST_DAY || calendar.holidayCount >= MAX_HOLIDAYS) {
            return refuse(ROOM);
        }
        if (calendar.rests(day)) {
            return refuse(STATE);
        }
        return calendar.addHoliday(day);
    }

    public int isWorking(int day) {
        int no = outside(day, 0, LAST_DAY);
        if (no != FINE) {
            return refuse(no);
        }
        return calendar.works(day) ? 1 : 0;
    }

    // ---- banks ----

    public int bank(int bank, int what, int v) {
        Bank it = bankAt(bank);
        if (it == null) {
            return refuse(NOBODY);
        }
        if (what < 0 || what > 1) {
            return refuse(OTHER);
        }
        int no = outside(v, 0, what == 0 ? MAX_FEE : MAX_CAP);
        if (no != FINE) {
            return refuse(no);
        }
        return what == 0 ? it.changeFee(v) : it.changeCap(v);
    }

    public int late(int bank, int day) {
        if (bankAt(bank) == null) {
            return refuse(NOBODY);
        }
        if (calendar.isLate(bank, day)) {
            return refuse(STATE);
        }
        if (day < calendar.today) {
            return refuse(BELOW);
        }
        if (day > LAST_DAY || calendar.lateCount >= MAX_LATE) {
            return refuse(ROOM);
        }
        return calendar.addLate(bank, day);
    }

    public int owes(int bank) {
        Bank it = bankAt(bank);
        return it == null ? refuse(NOBODY) : it.owed;
    }

    public long net(int bank) {
        Bank it = bankAt(bank);
        return it == null ? refuseLong(NOBODY) : it.netSum;
    }

    // ---- accounts ----

    public int account(int bank, int name, int joint) {
        Bank it = bankAt(bank);
        if (it == null) {
            return refuse(NOBODY);
        }
        if (name < 0 || joint < -1) {
            return refuse(BELOW);
        }
        if (name > MAX_NAME || joint > MAX_NAME || accounts.size() >= MAX_ACCOUNTS) {
            return refuse(ROOM);
        }
        return openAccount(it, name, joint).number;
    }

    public long put(int account, int n) {
        Account it = accountAt(account);
        if (it == null) {
            return refuseLong(NOBODY);
        }
        if (it.state != OPEN) {
            return refuseLong(STATE);
        }
        int no = outside(n, 1, MAX_PENCE);
        if (no != FINE) {
            return refuseLong(no);
        }
        it.pence += n;
        return it.pence;
    }

    public int over(int account, int n) {
        Account it = accountAt(account);
        if (it == null) {
            return refuse(NOBODY);
        }
        int no = outside(n, 0, MAX_PENCE);
        if (no != FINE) {
            return refuse(no);
        }
        int before = it.overdraft;
        it.overdraft = n;
        return before;
    }

    public int close(int account) {
        Account it = accountAt(account);
        if (it == null) {
            return refuse(NOBODY);
        }
        if (it.state != OPEN || it.pence != 0 || isInMove(it)) {
            return refuse(STATE);
        }
        it.state = CLOSED;
        return 1;
    }

    public long sum(int account) {
        Account it = accountAt(account);
        return it == null ? refuseLong(NOBODY) : it.pence;
    }

    public long was(int account, int day) {
        Account it = accountAt(account);
        if (it == null) {
            return refuseLong(NOBODY);
        }
        int no = outside(day, 0, calendar.today - 1);
        if (no != FINE) {
            return refuseLong(no);
        }
        return it.keptSum(day);
    }

    public int accountOf(int account, int what) {
        Account it = accountAt(account);
        if (it == null) {
            return refuse(NOBODY);
        }
        switch (what) {
            case 0: return it.bank.number;
            case 1: return it.state;
            case 2: return it.movedTo == null ? NONE : it.movedTo.number;
            case 3: return it.movedTo == null ? NONE : it.movedDay;
            case 4: return lastOf(it).number;
            case 5: return it.overdraft;
            case 6: return it.good;
            default: return refuse(OTHER);
        }
    }

    public int sends(int account, int day) {
        Account it = accountAt(account);
        if (it == null) {
            return refuse(NOBODY);
        }
        int no = outside(day, 0, LAST_DAY);
        if (no != FINE) {
            return refuse(no);
        }
        findRoutes(day);
        return it.route == null ? NONE : it.route.number;
    }

    // ---- rules ----

    public int feed(int n, long bytes) {
        if (n < 1) {
            return refuse(BELOW);
        }
        if (n > 8 || tape.size + n > MAX_TAPE) {
            return refuse(ROOM);
        }
        for (int i = 0; i < n; i++) {
            tape.add((int) ((bytes >> (8 * i)) & 255));
        }
        return tape.size;
    }

    public int rule(int purpose, int day) {
        if (purpose < FOR_ASK || purpose > FOR_GOOD) {
            return refuse(OTHER);
        }
        if (day < calendar.today) {
            return refuse(BELOW);
        }
        if (day > LAST_DAY || rules.size() >= MAX_RULES) {
            return refuse(ROOM);
        }
        int fault = tape.read();
        tape.wipe();
        if (fault != NONE) {
            return FAULTY_TEXT - fault;
        }
        return rules.add(new Rule(purpose, day, tape.codeRead()));
    }

    // ---- lines ----

    public int line(int kind, int from, int to, int sum, int first, int every) {
        if (kind < PAYMENT || kind > LAST_KIND) {
            return refuse(OTHER);
        }
        Account payer = accountAt(from);
        Account payee = accountAt(to);
        if (payer == null || payee == null || payer == payee) {
            return refuse(NOBODY);
        }
        boolean once = kind == PAYMENT;
        if (sum < 1 || first < calendar.today || (!once && every < 1)) {
            return refuse(BELOW);
        }
        if (sum > MAX_PENCE || first > LAST_DAY || (!once && every > MAX_EVERY) || lines.size() >= MAX_LINES) {
            return refuse(ROOM);
        }
        Line it = new Line(kind, payer, payee, sum, first, once ? 0 : every);
        lines.add(it);
        return lines.size() - 1;
    }

    public int end(int line) {
        Line it = lineAt(line);
        if (it == null) {
            return refuse(NOBODY);
        }
        if (it.ended) {
            return refuse(STATE);
        }
        it.ended = true;
        it.endDay = calendar.today;
        return 1;
    }

    public int lineOf(int line, int what) {
        Line it = lineAt(line);
        if (it == null) {
            return refuse(NOBODY);
        }
        switch (what) {
            case 0: return it.kind;
            case 1: return it.from.number;
            case 2: return it.to.number;
            case 3: return it.done;
            case 4: return it.timesBack(WHY_SUM);
            case 5: return it.timesBack(WHY_CLOSED);
            case 6: return it.timesBack(WHY_NOT_SENT);
            case 7: return it.timesBack(WHY_ONE);
            case 8: return it.lastDone;
            default: return refuse(OTHER);
        }
    }

    // ---- moves ----

    public int ask(int account, int bank, boolean partly) {
        Account it = accountAt(account);
        Bank other = bankAt(bank);
        if (it == null || other == null) {
            return refuse(NOBODY);
        }
        if (it.state != OPEN || isInMove(it) || it.bank == other || !mayLeave(it, other)) {
            return refuse(STATE);
        }
        if (moves.size() >= MAX_MOVES || accounts.size() >= MAX_ACCOUNTS) {
            return refuse(ROOM);
        }
        Account fresh = openAccount(other, it.name, it.joint);
        moves.add(new Move(it, fresh, partly, calendar.today));
        return moves.size() - 1;
    }

    public int agree(int move) {
        Move it = moveAt(move);
        if (it == null) {
            return refuse(NOBODY);
        }
        if (!it.old.isJoint() || it.agreed || !it.goesOn) {
            return refuse(STATE);
        }
        it.agreed = true;
        return 1;
    }

    public int takeBack(int move) {
        Move it = moveAt(move);
        if (it == null) {
            return refuse(NOBODY);
        }
        if (!it.goesOn || it.steps >= 6) {
            return refuse(STATE);
        }
        it.stop(TAKEN_BACK);
        return 1;
    }

    public int moveOf(int move, int what) {
        Move it = moveAt(move);
        if (it == null) {
            return refuse(NOBODY);
        }
        switch (what) {
            case 0: return it.old.number;
            case 1: return it.fresh.number;
            case 2: return it.steps;
            case 3: return it.goesOn ? 1 : 0;
            case 4: return it.why;
            case 5: return it.faults;
            case 6: return it.firstFault == null ? NONE : it.firstFault.number;
            case 7: return it.askDay;
            case 8: return it.lastStep;
            default: return refuse(OTHER);
        }
    }

    // ---- names ----

    public int like(int account, int name) {
        Account it = accountAt(account);
        if (it == null) {
            return refuse(NOBODY);
        }
        int no = outside(name, 0, MAX_NAME);
        if (no != FINE) {
            return refuse(no);
        }
        return it.likeness(name);
    }

    public int rivals(int bank, int name) {
        Bank it = bankAt(bank);
        if (it == null) {
            return refuse(NOBODY);
        }
        int no = outside(name, 0, MAX_NAME);
        if (no != FINE) {
            return refuse(no);
        }
        return countRivals(it, name);
    }

    public int rival(int bank, int name, int i) {
        Bank it = bankAt(bank);
        if (it == null) {
            return refuse(NOBODY);
        }
        int no = outside(name, 0, MAX_NAME);
        if (no != FINE) {
            return refuse(no);
        }
        return findRival(it, name, i);
    }

    // ---- nets that must agree ----

    public int tell(long v) {
        if (rowSize < 0 || rowSize >= row.length) {
            return refuse(ROOM);
        }
        row[rowSize] = v;
        rowSize++;
        return rowSize;
    }

    public int check() {
        if (rowSize != row.length) {
            return refuse(STATE);
        }
        rowSize = 0;
        for (int i = 0; i < row.length && i < banks.length; i++) {
            if (row[i] != banks[i].netSum) {
                return i;
            }
        }
        return NONE;
    }

    // ---- surges ----

    public int surge(int n) {
        if (n < 0) {
            return refuse(BELOW);
        }
        if (n > MAX_SURGE || asks.size >= MAX_SURGE_DAYS) {
            return refuse(ROOM);
        }
        return asks.add(n);
    }

    public int least() {
        return asks.leastCap();
    }

    public int tooLate(int cap) {
        int no = outside(cap, 0, MAX_TRIED_CAP);
        if (no != FINE) {
            return refuse(no);
        }
        int day = asks.firstDayTooLate(cap);
        asks.size = 0;
        return day;
    }

    // ---- counts ----

    public int count(int what) {
        switch (what) {
            case 0: return calendar.today;
            case 1: return accounts.size();
            case 2: return openAccounts();
            case 3: return linesNotEnded(null);
            case 4: return moves.size();
            case 5: return movesThatGoOn();
            case 6: return rules.size();
            case 7: return tape.size;
            case 8: return rowSize;
            case 9: return asks.size;
            case 10: return calendar.nights;
            default: return refusalsCounted(what - 10);
        }
    }

    private int openAccounts() {
        int found = 0;
        for (int i = 0; i < accounts.size(); i++) {
            if (accounts.get(i).state == OPEN) {
                found++;
            }
        }
        return found;
    }

    /** Those from one account, or, for null, all. */
    private int linesNotEnded(Account from) {
        int found = 0;
        for (int i = 0; i < lines.size(); i++) {
            Line it = lines.get(i);
            if (!it.ended && (from == null || it.from == from)) {
                found++;
            }
        }
        return found;
    }

    private int movesThatGoOn() {
        int found = 0;
        for (int i = 0; i < moves.size(); i++) {
            if (moves.get(i).goesOn) {
                found++;
            }
        }
        return found;
    }

    private int refusalsCounted(int kind) {
        return kind >= 1 && kind <= REFUSAL_KINDS ? refusals[kind] : NONE;
    }

    /** The refusal of a number that is not within its bounds, or FINE. */
    private static int outside(int v, int least, int most) {
        return v < least ? BELOW : v > most ? ROOM : FINE;
    }

    private int refuse(int answer) {
        int kind = -answer;
        if (kind >= 1 && kind <= REFUSAL_KINDS) {
            refusals[kind]++;
        }
        return answer;
    }

    private long refuseLong(int answer) {
        return LONG_REFUSAL - refuse(answer);
    }

    // ---- what a number stands for: null, if for nothing ----

    private Bank bankAt(int number) {
        return number >= 0 && number < banks.length ? banks[number] : null;
    }

    private Account accountAt(int number) {
        return number >= 0 && number < accounts.size() ? accounts.get(number) : null;
    }

    private Line lineAt(int number) {
        return number >= 0 && number < lines.size() ? lines.get(number) : null;
    }

    private Move moveAt(int number) {
        return number >= 0 && number < moves.size() ? moves.get(number) : null;
    }

    // ---- what accounts are to moves, routes and names ----

    private Account openAccount(Bank bank, int name, int joint) {
        Account fresh = new Account(accounts.size(), bank, name, joint, calendar.today);
        accounts.add(fresh);
        return fresh;
    }

    private boolean isInMove(Account it) {
        for (int i = 0; i < moves.size(); i++) {
            Move move = moves.get(i);
            if (move.goesOn && move.has(it)) {
                return true;
            }
        }
        return false;
    }

    private static Account lastOf(Account it) {
        Account last = it;
        for (int i = 0; i < MAX_ACCOUNTS && last.movedTo != null; i++) {
            last = last.movedTo;
        }
        return last;
    }

    /** An account moves only to one made later, so from the last one down each next route is there already. */
    private void findRoutes(int day) {
        Rule inForce = rules.inForce(FOR_SENDS, day);
        for (int i = accounts.size() - 1; i >= 0; i--) {
            Account it = accounts.get(i);
            if (it.movedTo == null) {
                it.route = it;
            } else {
                it.route = isSentOn(it, it.movedTo, day, inForce) ? it.movedTo.route : null;
            }
        }
    }

    private boolean isSentOn(Account it, Account next, int day, Rule inForce) {
        int since = day - it.movedDay;
        if (inForce == null) {
            return since <= USUAL_SENDS;
        }
        long[] letters = rules.freshLetters();
        letters[B] = it.bank.number;
        letters[T] = next.bank.number;
        letters[D] = since;
        return since <= inForce.worth(letters, rules.stack);
    }

    private int greatestLikeness(Bank bank, int name) {
        int most = 0;
        for (int i = 0; i < accounts.size(); i++) {
            Account it = accounts.get(i);
            if (it.state == OPEN && it.bank == bank) {
                most = Math.max(most, it.likeness(name));
            }
        }
        return most;
    }

    private int countRivals(Bank bank, int name) {
        int most = greatestLikeness(bank, name);
        int found = 0;
        for (int i = 0; i < accounts.size(); i++) {
            if (accounts.get(i).isRival(bank, name, most)) {
                found++;
            }
        }
        return found;
    }

    private int findRival(Bank bank, int name, int wanted) {
        int most = greatestLikeness(bank, name);
        int found = 0;
        for (int i = 0; i < accounts.size(); i++) {
            boolean isOne = accounts.get(i).isRival(bank, name, most);
            if (isOne && found == wanted) {
                return i;
            }
            found += isOne ? 1 : 0;
        }
        return NONE;
    }

    // ---- a night: its frame, then moves ----

    private void beginNight() {
        calendar.nights++;
        for (int i = 0; i < banks.length; i++) {
            banks[i].steps = 0;
            banks[i].netSum = 0;
        }
    }

    private void keepSums() {
        for (int i = 0; i < accounts.size(); i++) {
            accounts.get(i).keepSum(calendar.today);
        }
    }

    private void doMoves() {
        for (int i = 0; i < moves.size(); i++) {
            Move move = moves.get(i);
            if (move.goesOn && move.askDay < calendar.today) {
                moveOn(move);
            }
        }
    }

    private void moveOn(Move move) {
        Bank leaving = move.old.bank;
        Bank joining = move.fresh.bank;
        if (calendar.isLate(leaving.number, calendar.today)) {
            move.addFault(leaving);
        } else if (calendar.isLate(joining.number, calendar.today)) {
            move.addFault(joining);
        } else if (leaving.hasStepLeft() && joining.hasStepLeft()) {
            leaving.steps++;
            joining.steps++;
            move.steps++;
            move.lastStep = calendar.today;
            doStep(move);
        }
    }

    private void doStep(Move move) {
        switch (move.steps) {
            case 3:
                if (move.old.isJoint() && !move.agreed) {
                    move.stop(NOT_AGREED);
                }
                break;
            case 5:
                if (!move.partly && move.old.pence < 0 && refusesOverdrawn(move)) {
                    move.stop(OVERDRAFT);
                }
                break;
            case 6:
                moveLines(move);
                break;
            case 7:
                move.goesOn = false;
                if (!move.partly) {
                    carry(move.old, move.fresh, move.old.pence);
                    move.old.leaveFor(move.fresh, calendar.today);
                }
                break;
            default:
                break;
        }
    }

    private void moveLines(Move move) {
        for (int i = 0; i < lines.size(); i++) {
            Line it = lines.get(i);
            if (it.from == move.old && (!move.partly || it.kind == ORDER)) {
                it.from = move.fresh;
            }
        }
    }

    private boolean mayLeave(Account it, Bank other) {
        Rule inForce = rules.inForce(FOR_ASK, calendar.today);
        if (inForce == null) {
            return true;
        }
        return inForce.worth(lettersOfLeaving(it, other), rules.stack) > 0;
    }

    private boolean refusesOverdrawn(Move move) {
        Rule inForce = rules.inForce(FOR_OVERDRAWN, calendar.today);
        if (inForce == null) {
            return true;
        }
        long[] letters = lettersOfLeaving(move.old, move.fresh.bank);
        letters[D] = calendar.today - move.askDay;
        return inForce.worth(letters, rules.stack) > 0;
    }

    private long[] lettersOfLeaving(Account it, Bank other) {
        long[] letters = rules.freshLetters();
        letters[B] = it.bank.number;
        letters[T] = other.number;
        letters[S] = it.pence;
        letters[O] = it.overdraft;
        letters[J] = it.isJoint() ? 1 : 0;
        letters[L] = linesNotEnded(it);
        return letters;
    }

    private static void carry(Account from, Account to, long pence) {
        from.pence -= pence;
        to.pence += pence;
        from.bank.netSum -= pence;
        to.bank.netSum += pence;
    }

    // ---- a night: lines ----

    private void doLines() {
        for (int due = calendar.dueFrom; due <= calendar.today; due++) {
            for (int i = 0; i < lines.size(); i++) {
                Line it = lines.get(i);
                if (it.isDue(due)) {
                    it.setNextDue();
                    doLine(it);
                }
            }
        }
        calendar.dueFrom = calendar.today + 1;
    }

    private void doLine(Line it) {
        Account from = it.kind == PULL ? it.from.route : lastOf(it.from);
        Account to = it.to.route;
        int why = WHY_NOT_SENT;
        if (from != null && to != null) {
            why = whyBack(from, to, it.pence);
            if (why == 0) {
                carry(from, to, it.pence);
                it.done++;
                it.lastDone = calendar.today;
                return;
            }
        }
        it.addBack(why);
        comeBack(from == null ? it.from : from, it.pence, why);
    }

    private static int whyBack(Account from, Account to, long pence) {
        if (from.state == CLOSED || to.state == CLOSED) {
            return WHY_CLOSED;
        }
        if (from == to) {
            return WHY_ONE;
        }
        return from.pence - pence < -from.overdraft ? WHY_SUM : 0;
    }

    private void comeBack(Account it, long pence, int why) {
        if (why == WHY_SUM) {
            it.pence -= it.bank.fee;
        }
        Bank faulty = bankAtFault(it);
        if (faulty == null) {
            return;
        }
        long worth = Math.max(0, worthOfGood(it.bank, pence, why));
        it.pence += worth;
        it.good = (int) Math.min(MOST, it.good + worth);
        faulty.owed = (int) Math.min(MOST, faulty.owed + worth);
    }

    private Bank bankAtFault(Account it) {
        for (int i = 0; i < moves.size(); i++) {
            Move move = moves.get(i);
            if (move.faults > 0 && move.has(it)) {
                return move.firstFault;
            }
        }
        return null;
    }

    private long worthOfGood(Bank bank, long pence, int why) {
        Rule inForce = rules.inForce(FOR_GOOD, calendar.today);
        if (inForce == null) {
            return bank.fee;
        }
        long[] letters = rules.freshLetters();
        letters[B] = bank.number;
        letters[N] = pence;
        letters[F] = bank.fee;
        letters[W] = why;
        return inForce.worth(letters, rules.stack);
    }

    // ---- the parts ----

    private static final class Calendar {
        private final boolean[] holidays = new boolean[LAST_DAY + 1];
        private final int[] lateBanks = new int[LAST_DAY + 1];
        private int holidayCount;
        private int lateCount;
        private int today;
        private int nights;
        /** What was due from this day on has not been done. */
        private int dueFrom;

        private boolean rests(int day) {
            return day >= 0 && day < holidays.length && holidays[day];
        }

        private boolean works(int day) {
            return day % 7 < 5 && !rests(day);
        }

        private int addHoliday(int day) {
            if (day >= 0 && day < holidays.length) {
                holidays[day] = true;
                holidayCount++;
            }
            return holidayCount;
        }

        private boolean isLate(int bank, int day) {
            return day >= 0 && day < lateBanks.length && ((lateBanks[day] >> bank) & 1) == 1;
        }

        private int addLate(int bank, int day) {
            if (day >= 0 && day < lateBanks.length) {
                lateBanks[day] |= 1 << bank;
                lateCount++;
            }
            return lateCount;
        }
    }

    private static final class Bank {
        private final int number;
        private int fee;
        private int cap = MAX_CAP;
        private int owed;
        private int steps;
        private long netSum;

        private Bank(int number) {
            this.number = number;
        }

        private int changeFee(int to) {
            int before = fee;
            fee = to;
            return before;
        }

        private int changeCap(int to) {
            int before = cap;
            cap = to;
            return before;
        }

        private boolean hasStepLeft() {
            return steps < cap;
        }
    }

    private static final class Account {
        private final int number;
        private final Bank bank;
        private final int name;
        private final int joint;
        private final int madeDay;
        /** The sums at the ends of the days from madeDay on. */
        private final long[] keptSums;
        private long pence;
        private int overdraft;
        private int state;
        private Account movedTo;
        private int movedDay;
        private int good;
        /** Where it is sent on to on the day for which routes were found last; null: nowhere. */
        private Account route;

        private Account(int number, Bank bank, int name, int joint, int madeDay) {
            this.number = number;
            this.bank = bank;
            this.name = name;
            this.joint = joint;
            this.madeDay = madeDay;
            keptSums = new long[madeDay < LAST_DAY ? LAST_DAY - madeDay : 0];
        }

        private boolean isJoint() {
            return joint >= 0;
        }

        private void keepSum(int day) {
            int place = day - madeDay;
            if (place >= 0 && place < keptSums.length) {
                keptSums[place] = pence;
            }
        }

        private long keptSum(int day) {
            int place = day - madeDay;
            return place >= 0 && place < keptSums.length ? keptSums[place] : 0;
        }

        private void leaveFor(Account next, int day) {
            state = MOVED;
            movedTo = next;
            movedDay = day;
        }

        private int likeness(int other) {
            int first = alike(name, other);
            return isJoint() ? Math.max(first, alike(joint, other)) : first;
        }

        private static int alike(int a, int b) {
            int differ = 0;
            for (int power = 1; power <= 1000; power *= 10) {
                if (a / power % 10 != b / power % 10) {
                    differ++;
                }
            }
            return differ == 0 ? 2 : differ == 1 ? 1 : 0;
        }

        private boolean isRival(Bank at, int other, int most) {
            return most >= 1 && state == OPEN && bank == at && likeness(other) == most;
        }
    }

    private static final class Line {
        private final int kind;
        private Account from;
        private final Account to;
        private final int pence;
        private final int every;
        private int nextDue;
        private boolean ended;
        private int endDay;
        private int done;
        private int lastDone = NONE;
        private final int[] backs = new int[WHY_ONE + 1];

        /** every is 0 for what is due once. */
        private Line(int kind, Account from, Account to, int pence, int first, int every) {
            this.kind = kind;
            this.from = from;
            this.to = to;
            this.pence = pence;
            this.every = every;
            nextDue = first;
        }

        private boolean isDue(int day) {
            return nextDue == day && !(ended && day >= endDay);
        }

        private void setNextDue() {
            nextDue = every == 0 ? NONE : nextDue + every;
        }

        private void addBack(int why) {
            if (why >= 0 && why < backs.length) {
                backs[why]++;
            }
        }

        private int timesBack(int why) {
            return why >= 0 && why < backs.length ? backs[why] : 0;
        }
    }

    private static final class Move {
        private final Account old;
        private final Account fresh;
        private final boolean partly;
        private final int askDay;
        private int steps;
        private int lastStep = NONE;
        private boolean goesOn = true;
        private boolean agreed;
        private int why;
        private int faults;
        private Bank firstFault;

        private Move(Account old, Account fresh, boolean partly, int askDay) {
            this.old = old;
            this.fresh = fresh;
            this.partly = partly;
            this.askDay = askDay;
        }

        private boolean has(Account it) {
            return old == it || fresh == it;
        }

        private void addFault(Bank bank) {
            if (faults == 0) {
                firstFault = bank;
            }
            faults++;
        }

        /** No net is told of this: nets are of lines and of the seventh step alone. */
        private void stop(int reason) {
            goesOn = false;
            why = reason;
            old.pence += fresh.pence;
            fresh.pence = 0;
            fresh.state = CLOSED;
        }
    }

    private static final class Rule {
        private static final int LETTER = 100000;

        private final int purpose;
        private final int fromDay;
        /** Numbers, letters (LETTER and more) and, behind what they join, signs (below 0). */
        private final int[] code;

        private Rule(int purpose, int fromDay, int[] code) {
            this.purpose = purpose;
            this.fromDay = fromDay;
            this.code = code;
        }

        private long worth(long[] letters, long[] stack) {
            int top = 0;
            for (int i = 0; i < code.length; i++) {
                int token = code[i];
                if (token < 0) {
                    if (top >= 2 && top <= stack.length) {
                        top--;
                        stack[top - 1] = hold(join(-token, stack[top - 1], stack[top]));
                    }
                } else if (top < stack.length) {
                    int letter = token - LETTER;
                    stack[top] = letter >= 0 && letter < letters.length ? hold(letters[letter]) : token;
                    top++;
                }
            }
            return top > 0 && top <= stack.length ? stack[top - 1] : 0;
        }

        private static long join(int sign, long a, long b) {
            switch (sign) {
                case '+': return a + b;
                case '-': return a - b;
                case '*': return a * b;
                case '/': return b == 0 ? 0 : a / b;
                case '<': return a < b ? 1 : 0;
                case '=': return a == b ? 1 : 0;
                case '>': return a > b ? 1 : 0;
                default: return 0;
            }
        }

        private static long hold(long v) {
            return v > MOST ? MOST : v < -MOST ? -MOST : v;
        }
    }

    private static final class RuleBook {
        private final ArrayList<Rule> told = new ArrayList<Rule>();
        private final long[] letters = new long[LETTERS.length()];
        private final long[] stack = new long[MAX_TAPE];

        private int size() {
            return told.size();
        }

        private int add(Rule it) {
            told.add(it);
            return told.size();
        }

        /** null: the usual worth is in force. */
        private Rule inForce(int purpose, int day) {
            Rule found = null;
            for (int i = 0; i < told.size(); i++) {
                Rule it = told.get(i);
                if (it.purpose == purpose && it.fromDay <= day && (found == null || it.fromDay >= found.fromDay)) {
                    found = it;
                }
            }
            return found;
        }

        /** One row serves all: no worth is asked for while another is being found. */
        private long[] freshLetters() {
            Arrays.fill(letters, 0);
            return letters;
        }
    }

    /** The bytes that came, and the reading of them. */
    private static final class Tape {
        private static final int DEEPEST = 5;
        private static final int MAX_DIGITS = 5;
        private static final int END = -1;

        private final int[] bytes = new int[MAX_TAPE];
        private int size;
        private int place;
        private int fault;
        private final int[] code = new int[MAX_TAPE];
        private int codeSize;

        private void add(int b) {
            if (size >= 0 && size < bytes.length) {
                bytes[size] = b;
                size++;
            }
        }

        private void wipe() {
            size = 0;
        }

        private int[] codeRead() {
            return Arrays.copyOf(code, Math.max(0, codeSize));
        }

        /** The place of the fault, or NONE. */
        private int read() {
            place = 0;
            fault = NONE;
            codeSize = 0;
            readSum(0);
            if (place < size) {
                fail();
            }
            return fault;
        }

        /** After a fault all looks like the end, so that each reading below stops by itself. */
        private int next() {
            return fault == NONE && place >= 0 && place < size && place < bytes.length ? bytes[place] : END;
        }

        private void fail() {
            if (fault == NONE) {
                fault = place;
            }
        }

        private void emit(int token) {
            if (codeSize >= 0 && codeSize < code.length) {
                code[codeSize] = token;
                codeSize++;
            }
        }

        private void readSum(int depth) {
            readTerm(depth);
            for (int i = 0; i < MAX_TAPE && (next() == '+' || next() == '-'); i++) {
                int sign = next();
                place++;
                readTerm(depth);
                emit(-sign);
            }
        }

        private void readTerm(int depth) {
            readUnit(depth);
            for (int i = 0; i < MAX_TAPE && (next() == '*' || next() == '/'); i++) {
                int sign = next();
                place++;
                readUnit(depth);
                emit(-sign);
            }
        }

        private void readUnit(int depth) {
            int b = next();
            int letter = b == END ? -1 : LETTERS.indexOf((char) b);
            if (b >= '0' && b <= '9') {
                readNumber();
            } else if (letter >= 0) {
                emit(Rule.LETTER + letter);
                place++;
            } else if (b == '(' && depth < DEEPEST) {
                place++;
                readBracket(depth + 1);
            } else {
                fail();
            }
        }

        private void readNumber() {
            int number = 0;
            for (int i = 0; i < MAX_DIGITS && next() >= '0' && next() <= '9'; i++) {
                number = number * 10 + (next() - '0');
                place++;
            }
            emit(number);
        }

        private void readBracket(int depth) {
            readSum(depth);
            int sign = next();
            if (sign == '<' || sign == '=' || sign == '>') {
                place++;
                readSum(depth);
                emit(-sign);
            }
            if (next() == ')') {
                place++;
            } else {
                fail();
            }
        }
    }

    private static final class Surge {
        private final int[] came = new int[MAX_SURGE_DAYS];
        private int size;

        private int add(int n) {
            if (size >= 0 && size < came.length) {
                came[size] = n;
                size++;
            }
            return size;
        }

        private int cameOn(int day) {
            return day >= 0 && day < size && day < came.length ? came[day] : 0;
        }

        /** As many a day as came on the greatest day are always enough. */
        private int leastCap() {
            for (int cap = 0; cap < MAX_SURGE; cap++) {
                if (firstDayTooLate(cap) == NONE) {
                    return cap;
                }
            }
            return MAX_SURGE;
        }

        private int firstDayTooLate(int cap) {
            int waiting = 0;
            for (int day = 0; day < size + 2; day++) {
                waiting += cameOn(day);
                waiting -= Math.min(cap, waiting);
                if (waiting > cameOn(day) + cameOn(day - 1)) {
                    return day;
                }
            }
            return NONE;
        }
    }
}
