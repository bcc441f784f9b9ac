import java.util.Arrays;
import java.util.Random;

/** Runs of calls from fixed seeds, held against PlainModel call by call. */
public final class RandomRunsTest {
    private static final int RUNS = 600;
    private static final int CALLS = 500;
    private static final int EDGE = 25;
    private static final int[] ODD = {-1, 0, 1, 7, 8, 40, 60, 99, 100, 999, 1000, 1500, 1501, 9999, 10000, 99999, 100000,
        Integer.MAX_VALUE, Integer.MIN_VALUE, -2, 127, 128};

    private final Random random;
    private final PlainModel model = new PlainModel();
    private final SwitchSeven real = new SwitchSeven();
    private final StringBuilder told = new StringBuilder();
    private boolean differs = false;
    private final int run;
    private static final int[] seen = new int[12];

    private RandomRunsTest(int run) {
        this.run = run;
        random = new Random(run * 7919L + 13);
    }

    public static void main(String[] args) {
        int runs = args.length > 0 ? Integer.parseInt(args[0]) : RUNS;
        for (int run = 0; run < runs; run++) {
            new RandomRunsTest(run).goThrough();
        }
        String[] names = {"DONE", "BACK 1", "BACK 2", "BACK 3", "BACK 4", "MOVED", "partly", "REFUSED 1", "REFUSED 2",
            "REFUSED 3", "FAULTS", "GOOD"};
        for (int i = 0; i < names.length; i++) {
            System.out.println(names[i] + ": " + seen[i]);
            Due.isTrue("the runs met " + names[i], seen[i] > 0);
        }
        Due.finish();
    }

    private int pick(int n) {
        return random.nextInt(n);
    }

    private int odd() {
        return ODD[pick(ODD.length)];
    }

    /** Mostly within, now and then at or beyond an edge. */
    private int from(int least, int most) {
        int dice = pick(EDGE * 3);
        if (dice == 0) {
            return least - 1;
        }
        if (dice == 1) {
            return most + 1;
        }
        if (dice == 2) {
            return odd();
        }
        return most < least ? least : least + pick(most - least + 1);
    }

    private int account() {
        return from(0, model.accounts() - 1);
    }

    private int someBank() {
        return from(0, run % 3 == 0 ? 7 : 2);
    }

    private int soon(int span) {
        return from(model.day, Math.min(1500, model.day + span));
    }

    private int name() {
        return pick(EDGE) == 0 ? odd() : (1 + pick(2)) * 1000 + (1 + pick(2)) * 100 + 10 + pick(3);
    }

    private void goThrough() {
        int start = 2 + pick(6);
        for (int i = 0; i < start; i++) {
            call("account", someBank(), name(), pick(3) == 0 ? name() : -1);
            call("put", i, 1 + pick(20000));
        }
        for (int i = 0; i < CALLS && !differs; i++) {
            next();
            if (i % 60 == 59) {
                compareAll();
            }
        }
        compareAll();
        look();
    }

    private void next() {
        int dice = pick(100);
        if (dice < 22) {
            int span = pick(20) == 0 ? 60 : pick(6) == 0 ? 9 : 3;
            call("days", from(1, span));
        } else if (dice < 34) {
            call("line", from(0, 3), account(), account(), pick(4) == 0 ? from(1, 99999) : from(1, 3000), soon(9),
                from(1, pick(3) == 0 ? 90 : 8));
        } else if (dice < 44) {
            call("ask", account(), someBank(), pick(4) == 0 ? 1 : 0);
        } else if (dice < 49) {
            call("agree", model.moves() - 1 - pick(3));
        } else if (dice < 51) {
            call("takeBack", from(0, model.moves() - 1));
        } else if (dice < 56) {
            call("late", someBank(), soon(6));
        } else if (dice < 61) {
            ruleCalls();
        } else if (dice < 81) {
            change(pick(20));
        } else {
            query(pick(18));
        }
    }

    private void change(int dice) {
        switch (dice) {
            case 0: call("holiday", soon(12)); break;
            case 1: case 2: call("bank", someBank(), 0, from(0, 999)); break;
            case 3: call("bank", someBank(), from(0, 1), pick(2) == 0 ? from(0, 3) : from(0, 99)); break;
            case 4: case 5: call("account", someBank(), name(), pick(3) == 0 ? name() : -1); break;
            case 6: case 7: case 8: call("put", account(), from(1, 9999)); break;
            case 9: case 10: call("over", account(), from(0, pick(2) == 0 ? 99999 : 3000)); break;
            case 11: case 12: closeOne(); break;
            case 13: call("end", from(0, model.lines() - 1)); break;
            case 14: call("surge", from(0, 127)); break;
            case 15: call("tell", pick(2) == 0 ? 0 : real.net(real.count(8) % 8)); break;
            case 16: call("tooLate", from(0, 90)); break;
            case 17: call("feed", from(1, 8), random.nextLong()); break;
            case 18: call("rule", from(0, 3), soon(5)); break;
            default: for (int i = 0; i < 8; i++) {
                call("tell", real.net(i));
            }
            call("check");
        }
    }

    /** One can be closed only at a SUM of 0, which seldom comes by itself: what is below 0 is filled up. */
    private void closeOne() {
        int which = account();
        long pence = real.sum(which);
        model.call("sum", new long[] {which});
        if (pence < 0 && pence >= -99999) {
            call("put", which, -pence);
        }
        call("close", which);
    }

    private void query(int dice) {
        switch (dice) {
            case 0: call("isWorking", from(0, 1500)); break;
            case 1: call("sum", account()); break;
            case 2: case 3: call("was", account(), from(0, model.day - 1)); break;
            case 4: call("accountOf", account(), from(0, 6)); break;
            case 5: case 6: case 7: call("sends", account(), pick(2) == 0 ? soon(20) : from(0, 1500)); break;
            case 8: call("lineOf", from(0, model.lines() - 1), from(0, 8)); break;
            case 9: call("moveOf", from(0, model.moves() - 1), from(0, 8)); break;
            case 10: call("owes", someBank()); break;
            case 11: call("like", account(), name()); break;
            case 12: call("rivals", someBank(), name()); break;
            case 13: call("rival", someBank(), name(), from(0, 3)); break;
            case 14: call("net", someBank()); break;
            case 15: call("check"); break;
            case 16: call("least"); break;
            default: call("count", from(0, 16)); break;
        }
    }

    private void ruleCalls() {
        int purpose = pick(4);
        StringBuilder text = new StringBuilder();
        if (purpose == 0 && pick(2) == 0) {
            text.append("1+");
        }
        sum(text, 0);
        if (pick(6) == 0 && text.length() > 0) {
            text.setCharAt(pick(text.length()), "()+-*/<=>09bx".charAt(pick(13)));
        }
        for (int at = 0; at < text.length(); at += 8) {
            int n = Math.min(8, text.length() - at);
            long bytes = pick(2) == 0 ? 0 : -1L << (n * 8 - 1) << 1;
            for (int i = 0; i < n; i++) {
                bytes |= (long) text.charAt(at + i) << (8 * i);
            }
            call("feed", n, bytes);
        }
        call("rule", purpose, soon(6));
    }

    private void sum(StringBuilder text, int depth) {
        int more = pick(3);
        term(text, depth);
        for (int i = 0; i < more; i++) {
            text.append(pick(2) == 0 ? '+' : '-');
            term(text, depth);
        }
    }

    private void term(StringBuilder text, int depth) {
        int more = pick(5) / 2;
        unit(text, depth);
        for (int i = 0; i < more; i++) {
            text.append(pick(2) == 0 ? '*' : '/');
            unit(text, depth);
        }
    }

    private void unit(StringBuilder text, int depth) {
        int dice = pick(10);
        if (dice < 3) {
            text.append(pick(pick(2) == 0 ? 20 : 100000));
        } else if (dice < 7 || depth > 5) {
            text.append("btsojlnfwd".charAt(pick(10)));
        } else {
            text.append('(');
            sum(text, depth + 1);
            if (pick(2) == 0) {
                text.append("<=>".charAt(pick(3)));
                sum(text, depth + 1);
            }
            text.append(')');
        }
    }

    private void compareAll() {
        for (int i = 0; i < model.accounts() && !differs; i++) {
            call("sum", i);
            for (int what = 0; what < 7; what++) {
                call("accountOf", i, what);
            }
            call("sends", i, model.day);
            for (int d = Math.max(0, model.day - 40); d < model.day; d++) {
                call("was", i, d);
            }
        }
        for (int i = 0; i < model.lines() && !differs; i++) {
            for (int what = 0; what < 9; what++) {
                call("lineOf", i, what);
            }
        }
        for (int i = 0; i < model.moves() && !differs; i++) {
            for (int what = 0; what < 9; what++) {
                call("moveOf", i, what);
            }
        }
        for (int i = 0; i < 8 && !differs; i++) {
            call("owes", i);
            call("net", i);
        }
        for (int what = 0; what <= 17 && !differs; what++) {
            call("count", what);
        }
    }

    /** What the run met, so that a run that meets nothing is seen. */
    private void look() {
        for (int i = 0; i < model.lines(); i++) {
            for (int why = 0; why < 5; why++) {
                seen[why] += real.lineOf(i, 3 + why);
            }
        }
        for (int i = 0; i < model.moves(); i++) {
            int refused = real.moveOf(i, 4);
            boolean whole = real.accountOf(real.moveOf(i, 0), 2) == real.moveOf(i, 1);
            if (refused > 0) {
                seen[6 + refused]++;
            } else if (real.moveOf(i, 2) == 7) {
                seen[whole ? 5 : 6]++;
            }
            seen[10] += real.moveOf(i, 5);
        }
        for (int bank = 0; bank < 8; bank++) {
            seen[11] += real.owes(bank) > 0 ? 1 : 0;
        }
    }

    private void call(String op, long... a) {
        if (differs) {
            return;
        }
        long want = model.call(op, a);
        long got = ofReal(op, a);
        String call = op + Arrays.toString(a);
        told.append(call).append(" = ").append(want).append('\n');
        Due.is("run " + run + ": " + call, got, want);
        if (got != want) {
            differs = true;
            System.out.println("the run:\n" + told);
        }
    }

    private long ofReal(String op, long[] a) {
        int p = a.length > 0 ? (int) a[0] : 0;
        int q = a.length > 1 ? (int) a[1] : 0;
        int r = a.length > 2 ? (int) a[2] : 0;
        switch (op) {
            case "days": return real.days(p);
            case "holiday": return real.holiday(p);
            case "isWorking": return real.isWorking(p);
            case "bank": return real.bank(p, q, r);
            case "late": return real.late(p, q);
            case "account": return real.account(p, q, r);
            case "put": return real.put(p, q);
            case "over": return real.over(p, q);
            case "close": return real.close(p);
            case "sum": return real.sum(p);
            case "was": return real.was(p, q);
            case "accountOf": return real.accountOf(p, q);
            case "sends": return real.sends(p, q);
            case "feed": return real.feed(p, a[1]);
            case "rule": return real.rule(p, q);
            case "line": return real.line(p, q, r, (int) a[3], (int) a[4], (int) a[5]);
            case "end": return real.end(p);
            case "lineOf": return real.lineOf(p, q);
            case "ask": return real.ask(p, q, r != 0);
            case "agree": return real.agree(p);
            case "takeBack": return real.takeBack(p);
            case "moveOf": return real.moveOf(p, q);
            case "owes": return real.owes(p);
            case "like": return real.like(p, q);
            case "rivals": return real.rivals(p, q);
            case "rival": return real.rival(p, q, r);
            case "net": return real.net(p);
            case "tell": return real.tell(a[0]);
            case "check": return real.check();
            case "surge": return real.surge(p);
            case "least": return real.least();
            case "tooLate": return real.tooLate(p);
            default: return real.count(p);
        }
    }
}
