/**
 * REFUSALS: of two objects that were used alike one is asked what must be refused. Then 30 days pass in both,
 * and both answer alike, but for the number of refusals.
 */
public final class RefusedCallsTest {
    private static final int NOBODY = -1;
    private static final int OTHER = -2;
    private static final int STATE = -3;
    private static final int BELOW = -4;
    private static final int ROOM = -6;

    private interface Call {
        long on(SwitchSeven x);
    }

    private interface World {
        SwitchSeven make();
    }

    public static void main(String[] args) {
        longs();
        nobody();
        other();
        state();
        below();
        above();
        noRoom();
        noRoomForLines();
        faultsAndNones();
        Due.finish();
    }

    /** Day 8 (a Tuesday): 0 MOVED to 3, 1 in a MOVE as 4, 2 CLOSED; something of everything is told. */
    private static SwitchSeven used() {
        SwitchSeven x = new SwitchSeven();
        x.account(0, 1234, -1);
        x.account(1, 1111, 2222);
        x.account(2, 1235, -1);
        x.put(0, 500);
        x.over(1, 70);
        x.bank(0, 0, 30);
        x.bank(1, 1, 5);
        x.line(1, 0, 1, 10, 1, 1);
        x.line(2, 0, 1, 5, 2, 3);
        x.line(3, 1, 0, 40, 1, 2);
        x.end(1);
        x.ask(0, 3, false);
        x.days(10);
        x.late(1, 11);
        x.ask(1, 2, false);
        x.close(2);
        x.holiday(14);
        x.holiday(17);
        Due.rule(x, "5", 1, 20);
        Due.feed(x, "1+1");
        x.tell(7);
        x.surge(9);
        return x;
    }

    /** 40 accounts, 30 moves, 30 rules, 20 holidays, 60 lates, and all that can be on the tape, in the row, in the surge. */
    private static SwitchSeven full() {
        SwitchSeven x = Due.withAccounts(10);
        for (int i = 0; i < 30; i++) {
            x.ask(i % 10, (i % 10 + 1) % 8, false);
            if (i < 20) {
                x.takeBack(i);
            }
            Due.rule(x, "1", 0, 0);
        }
        for (int i = 0; i < 20; i++) {
            x.holiday(50 + i);
        }
        for (int i = 0; i < 60; i++) {
            x.late(i % 8, 20 + i);
        }
        Due.feed(x, "1+".repeat(30));
        for (int i = 0; i < 9; i++) {
            x.surge(i);
        }
        for (int i = 0; i < 8; i++) {
            x.tell(0);
        }
        return x;
    }

    private static SwitchSeven sixtyLines() {
        SwitchSeven x = used();
        for (int i = 3; i < 60; i++) {
            x.line(i % 4, i % 3, 4, i, 10, i);
        }
        return x;
    }

    private static void refused(World world, String call, int refusal, Call asked) {
        SwitchSeven x = world.make();
        SwitchSeven twin = world.make();
        long want = call.startsWith("long ") ? Due.no(refusal) : refusal;
        Due.is(call, asked.on(x), want);
        for (int what = 11; what <= 16; what++) {
            int more = what == 10 - refusal ? 1 : 0;
            Due.is(call + ": count(" + what + ")", x.count(what), twin.count(what) + more);
        }
        x.days(30);
        twin.days(30);
        compare(call, x, twin);
    }

    private static void alike(String call, SwitchSeven x, SwitchSeven twin, Call asked) {
        Due.is("behind " + call, asked.on(x), asked.on(twin));
    }

    private static void compare(String call, SwitchSeven x, SwitchSeven twin) {
        for (int what = 0; what <= 10; what++) {
            int w = what;
            alike(call, x, twin, o -> o.count(w));
        }
        int accounts = twin.count(1);
        for (int account = 0; account < accounts; account++) {
            int a = account;
            alike(call, x, twin, o -> o.sum(a));
            alike(call, x, twin, o -> o.accountOf(a, 1));
            alike(call, x, twin, o -> o.accountOf(a, 5));
        }
        int moves = twin.count(4);
        for (int move = 0; move < moves; move++) {
            int m = move;
            alike(call, x, twin, o -> o.moveOf(m, 2));
            alike(call, x, twin, o -> o.moveOf(m, 4));
        }
        for (int line = 0; line < 3; line++) {
            int l = line;
            alike(call, x, twin, o -> o.lineOf(l, 1));
            alike(call, x, twin, o -> o.lineOf(l, 3));
        }
        for (int bank = 0; bank < 8; bank++) {
            int b = bank;
            alike(call, x, twin, o -> o.net(b));
            alike(call, x, twin, o -> o.bank(b, 0, b));
            alike(call, x, twin, o -> o.bank(b, 1, 20));
        }
        for (int day = 10; day < 20; day++) {
            int d = day;
            alike(call, x, twin, o -> o.isWorking(d));
        }
        alike(call, x, twin, o -> o.least());
        alike(call, x, twin, o -> o.check());
        alike(call, x, twin, o -> o.rule(0, o.count(0)));
        alike(call, x, twin, o -> o.tooLate(1));
    }

    private static void longs() {
        Doc.says(0, "Longs (SUMS) that are REFUSALS are 4000000000000000000 less them.");
        SwitchSeven x = used();
        Due.is("-1", x.sum(9), 4000000000000000001L);
        Due.is("-3", x.put(2, 1), 4000000000000000003L);
        Due.is("-4", x.put(1, 0), 4000000000000000004L);
        Due.is("-6", x.put(1, 100000), 4000000000000000006L);
        Due.is("was -1", x.was(9, 0), 4000000000000000001L);
        Due.is("was -4", x.was(0, -1), 4000000000000000004L);
        Due.is("was -6", x.was(0, 10), 4000000000000000006L);
        Due.is("net -1", x.net(8), 4000000000000000001L);
        Due.is("counted as the others are", x.count(11) * 1000 + x.count(13) * 100 + x.count(14) * 10 + x.count(16), 3122);
    }

    private static void nobody() {
        Doc.says(0, "-1 NOBODY: no such BANK, ACCOUNT, LINE, MOVE.");
        Doc.says(0, "nothing changes but how many there were");
        World w = RefusedCallsTest::used;
        refused(w, "bank", NOBODY, x -> x.bank(8, 0, 5));
        refused(w, "late", NOBODY, x -> x.late(8, 12));
        refused(w, "account", NOBODY, x -> x.account(8, 1, -1));
        refused(w, "long put", NOBODY, x -> x.put(5, 1));
        refused(w, "over", NOBODY, x -> x.over(5, 1));
        refused(w, "close", NOBODY, x -> x.close(5));
        refused(w, "long sum", NOBODY, x -> x.sum(5));
        refused(w, "long was", NOBODY, x -> x.was(5, 1));
        refused(w, "accountOf", NOBODY, x -> x.accountOf(5, 1));
        refused(w, "sends", NOBODY, x -> x.sends(5, 1));
        refused(w, "line from", NOBODY, x -> x.line(1, 5, 1, 1, 10, 1));
        refused(w, "line to", NOBODY, x -> x.line(1, 1, 5, 1, 10, 1));
        refused(w, "line, one twice", NOBODY, x -> x.line(1, 1, 1, 1, 10, 1));
        refused(w, "end", NOBODY, x -> x.end(3));
        refused(w, "lineOf", NOBODY, x -> x.lineOf(3, 0));
        refused(w, "ask of nobody", NOBODY, x -> x.ask(5, 1, false));
        refused(w, "ask for no bank", NOBODY, x -> x.ask(3, 8, false));
        refused(w, "agree", NOBODY, x -> x.agree(2));
        refused(w, "takeBack", NOBODY, x -> x.takeBack(2));
        refused(w, "moveOf", NOBODY, x -> x.moveOf(2, 0));
        refused(w, "owes", NOBODY, x -> x.owes(8));
        refused(w, "like", NOBODY, x -> x.like(5, 1));
        refused(w, "rivals", NOBODY, x -> x.rivals(8, 1));
        refused(w, "rival", NOBODY, x -> x.rival(8, 1, 0));
        refused(w, "long net", NOBODY, x -> x.net(8));
    }

    private static void other() {
        Doc.says(0, "-2 OTHER: what, KIND, PURPOSE.");
        Doc.says(0, "nothing changes but how many there were");
        World w = RefusedCallsTest::used;
        refused(w, "bank", OTHER, x -> x.bank(0, 2, 5));
        refused(w, "accountOf", OTHER, x -> x.accountOf(0, 7));
        refused(w, "rule", OTHER, x -> x.rule(4, 12));
        refused(w, "line", OTHER, x -> x.line(4, 0, 1, 1, 10, 1));
        refused(w, "lineOf", OTHER, x -> x.lineOf(0, 9));
        refused(w, "moveOf", OTHER, x -> x.moveOf(0, 9));
    }

    private static void state() {
        Doc.says(0, "-3 STATE: it is not as it must be.");
        Doc.says(0, "nothing changes but how many there were");
        World w = RefusedCallsTest::used;
        refused(w, "holiday", STATE, x -> x.holiday(14));
        refused(w, "late", STATE, x -> x.late(1, 11));
        refused(w, "long put", STATE, x -> x.put(0, 1));
        refused(w, "close, MOVED", STATE, x -> x.close(0));
        refused(w, "close, in a MOVE", STATE, x -> x.close(4));
        refused(w, "close, SUM", STATE, x -> x.close(3));
        refused(w, "end", STATE, x -> x.end(1));
        refused(w, "ask, MOVED", STATE, x -> x.ask(0, 1, false));
        refused(w, "ask, in a MOVE", STATE, x -> x.ask(4, 5, false));
        refused(w, "ask, the same BANK", STATE, x -> x.ask(3, 3, false));
        refused(w, "agree", STATE, x -> x.agree(0));
        refused(w, "takeBack", STATE, x -> x.takeBack(0));
        refused(w, "check", STATE, x -> x.check());
    }

    private static void below() {
        Doc.says(0, "-4 BELOW: a number below the least.");
        Doc.says(0, "nothing changes but how many there were");
        World w = RefusedCallsTest::used;
        refused(w, "days", BELOW, x -> x.days(0));
        refused(w, "holiday", BELOW, x -> x.holiday(9));
        refused(w, "isWorking", BELOW, x -> x.isWorking(-1));
        refused(w, "bank", BELOW, x -> x.bank(0, 0, -1));
        refused(w, "late", BELOW, x -> x.late(0, 9));
        refused(w, "account", BELOW, x -> x.account(0, -1, -1));
        refused(w, "account, JOINT", BELOW, x -> x.account(0, 1, -2));
        refused(w, "long put", BELOW, x -> x.put(1, 0));
        refused(w, "over", BELOW, x -> x.over(1, -1));
        refused(w, "long was", BELOW, x -> x.was(1, -1));
        refused(w, "sends", BELOW, x -> x.sends(0, -1));
        refused(w, "feed", BELOW, x -> x.feed(0, 49));
        refused(w, "rule", BELOW, x -> x.rule(1, 9));
        refused(w, "line, sum", BELOW, x -> x.line(1, 1, 3, 0, 10, 1));
        refused(w, "line, FIRST", BELOW, x -> x.line(1, 1, 3, 1, 9, 1));
        refused(w, "line, EVERY", BELOW, x -> x.line(1, 1, 3, 1, 10, 0));
        refused(w, "like", BELOW, x -> x.like(1, -1));
        refused(w, "rivals", BELOW, x -> x.rivals(1, -1));
        refused(w, "rival", BELOW, x -> x.rival(1, -1, 0));
        refused(w, "surge", BELOW, x -> x.surge(-1));
        refused(w, "tooLate", BELOW, x -> x.tooLate(-1));
    }

    private static void above() {
        Doc.says(0, "-6 ROOM: a number above the greatest, no room.");
        Doc.says(0, "nothing changes but how many there were");
        World w = RefusedCallsTest::used;
        refused(w, "days", ROOM, x -> x.days(1491));
        refused(w, "holiday", ROOM, x -> x.holiday(1501));
        refused(w, "isWorking", ROOM, x -> x.isWorking(1501));
        refused(w, "bank, FEE", ROOM, x -> x.bank(0, 0, 1000));
        refused(w, "bank, CAP", ROOM, x -> x.bank(0, 1, 100));
        refused(w, "late", ROOM, x -> x.late(0, 1501));
        refused(w, "account", ROOM, x -> x.account(0, 10000, -1));
        refused(w, "account, JOINT", ROOM, x -> x.account(0, 1, 10000));
        refused(w, "long put", ROOM, x -> x.put(1, 100000));
        refused(w, "over", ROOM, x -> x.over(1, 100000));
        refused(w, "long was", ROOM, x -> x.was(1, 10));
        refused(w, "sends", ROOM, x -> x.sends(0, 1501));
        refused(w, "feed", ROOM, x -> x.feed(9, 49));
        refused(w, "rule", ROOM, x -> x.rule(1, 1501));
        refused(w, "line, sum", ROOM, x -> x.line(1, 1, 3, 100000, 10, 1));
        refused(w, "line, FIRST", ROOM, x -> x.line(1, 1, 3, 1, 1501, 1));
        refused(w, "line, EVERY", ROOM, x -> x.line(1, 1, 3, 1, 10, 91));
        refused(w, "like", ROOM, x -> x.like(1, 10000));
        refused(w, "rivals", ROOM, x -> x.rivals(1, 10000));
        refused(w, "rival", ROOM, x -> x.rival(1, 10000, 0));
        refused(w, "surge", ROOM, x -> x.surge(128));
        refused(w, "tooLate", ROOM, x -> x.tooLate(1000));
    }

    private static void noRoom() {
        Doc.says(0, "-6 ROOM: a number above the greatest, no room.");
        Doc.says(0, "nothing changes but how many there were");
        World w = RefusedCallsTest::full;
        refused(w, "a 21st holiday", ROOM, x -> x.holiday(10));
        refused(w, "a 61st late", ROOM, x -> x.late(0, 10));
        refused(w, "a 41st account", ROOM, x -> x.account(0, 1, -1));
        refused(w, "a 61st byte", ROOM, x -> x.feed(1, 49));
        refused(w, "a 31st rule", ROOM, x -> x.rule(0, 0));
        refused(w, "a ninth long", ROOM, x -> x.tell(5));
        refused(w, "a tenth day", ROOM, x -> x.surge(5));
        World thirty = () -> {
            SwitchSeven x = full();
            x.takeBack(20);
            return x;
        };
        refused(thirty, "a 31st move", ROOM, x -> x.ask(0, 3, false));
        World forty = () -> Due.withAccounts(40);
        refused(forty, "a move without an account left", ROOM, x -> x.ask(0, 3, false));
    }

    private static void noRoomForLines() {
        Doc.says(0, "-6 ROOM: a number above the greatest, no room.");
        World w = RefusedCallsTest::sixtyLines;
        refused(w, "a 61st line", ROOM, x -> x.line(1, 1, 3, 1, 10, 1));
    }

    private static void faultsAndNones() {
        Doc.says(0, "REFUSALS (the call answers the number, the first that fits in the order in which it tells them;");
        SwitchSeven x = used();
        int[] before = new int[17];
        for (int what = 11; what <= 16; what++) {
            before[what] = x.count(what);
        }
        Due.is("a FAULT", Due.rule(x, "+", 0, 10), -24);
        Due.is("no such rival", x.rival(1, 1111, 9), -9);
        Due.is("another what", x.count(99), -9);
        Due.is("MOVED to none", x.accountOf(3, 2), -9);
        Due.is("SENT ON nowhere", x.sends(0, 1500), -9);
        for (int what = 11; what <= 16; what++) {
            Due.is("no refusals, " + what, x.count(what), before[what]);
        }
    }
}
