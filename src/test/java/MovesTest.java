/** Promises 20 to 24, and the STEPS. */
public final class MovesTest {
    public static void main(String[] args) {
        asks();
        room();
        agrees();
        takesBack();
        told();
        jointWithNameZero();
        lateAndCaps();
        capOfTheOldBank();
        overdrawn();
        lettersOfOverdrawn();
        whole();
        partly();
        leastMoveIsAtFault();
        Due.finish();
    }

    private static void asks() {
        SwitchSeven x = Due.withAccounts(3);
        Due.is("no account", x.ask(3, 1, false), -1);
        Due.is("account -1", x.ask(-1, 1, false), -1);
        Due.is("no bank", x.ask(0, 8, false), -1);
        Due.is("bank -1", x.ask(0, -1, false), -1);
        Due.is("the same BANK", x.ask(0, 0, false), -3);
        Due.is("first MOVE", x.ask(0, 1, false), 0);
        Due.is("in a MOVE", x.ask(0, 2, false), -3);
        Due.is("the new one is in a MOVE too", x.ask(3, 2, false), -3);
        x.close(2);
        Due.is("CLOSED", x.ask(2, 0, false), -3);
        Due.is("the new one is at the BANK", x.accountOf(3, 0), 1);
        Due.is("and OPEN", x.accountOf(3, 1), 0);
        Due.is("of the same NAME", x.like(3, 0), 2);
        x.days(10);
        Due.is("MOVED", x.ask(0, 2, false), -3);
        Due.is("the new one may go on", x.ask(3, 0, false), 1);
        Due.is("MOVES", x.count(4), 2);
        Due.is("those that go on", x.count(5), 1);
        SwitchSeven y = new SwitchSeven();
        y.account(0, 1234, 5678);
        y.ask(0, 1, true);
        Due.is("the other NAME comes along", y.like(1, 5678), 2);
    }

    private static void room() {
        SwitchSeven x = Due.withAccounts(1);
        for (int i = 0; i < 30; i++) {
            Due.is("ask " + i, x.ask(0, 1, false), i);
            x.takeBack(i);
        }
        Due.is("a 31st", x.ask(0, 1, false), -6);
        Due.is("STATE ahead of ROOM", x.ask(0, 0, false), -3);
        Due.is("30 MOVES, 31 ACCOUNTS", x.count(1), 31);
        SwitchSeven y = Due.withAccounts(39);
        Due.is("the 40th ACCOUNT", y.ask(0, 1, false), 0);
        Due.is("a 41st", y.ask(1, 2, false), -6);
        Due.is("nothing changed", y.count(4), 1);
    }

    private static void agrees() {
        SwitchSeven x = new SwitchSeven();
        x.account(0, 1, 2);
        x.account(0, 1, -1);
        Due.is("no move", x.agree(0), -1);
        x.ask(0, 1, false);
        x.ask(1, 1, false);
        Due.is("not JOINT", x.agree(1), -3);
        Due.is("move -1", x.agree(-1), -1);
        x.put(2, 9);
        x.days(3);
        Due.is("two steps", x.moveOf(0, 2), 2);
        x.days(1);
        Due.is("REFUSED at step 3", x.moveOf(0, 4), 1);
        Due.is("which counts as done", x.moveOf(0, 2), 3);
        Due.is("on day 3", x.moveOf(0, 8), 3);
        Due.is("the other goes on", x.moveOf(1, 3), 1);
        Due.is("goes on no more", x.agree(0), -3);
        Due.is("SUM of the new one goes back", x.sum(0), 9);
        Due.is("all of it", x.sum(2), 0);
        Due.is("that is in no NET", x.net(0), 0);
        Due.is("the new one is CLOSED", x.accountOf(2, 1), 1);
        Due.is("asked again", x.ask(0, 1, false), 2);
        Due.is("AGREED", x.agree(2), 1);
        Due.is("told", x.agree(2), -3);
        x.days(14);
        Due.is("it went through", x.moveOf(2, 2), 7);
        Due.is("no WHY", x.moveOf(2, 4), 0);
    }

    private static void takesBack() {
        SwitchSeven x = Due.withAccounts(2);
        Due.is("no move", x.takeBack(0), -1);
        x.put(0, 5);
        x.ask(0, 1, false);
        x.ask(1, 2, false);
        x.days(8);
        Due.is("five steps", x.moveOf(0, 2), 5);
        x.put(2, 3);
        Due.is("ahead of step 6", x.takeBack(0), 1);
        Due.is("goes on no more", x.takeBack(0), -3);
        Due.is("WHY 3", x.moveOf(0, 4), 3);
        Due.is("no step for that", x.moveOf(0, 2), 5);
        Due.is("SUM is back", x.sum(0), 8);
        x.days(1);
        Due.is("step 6 was done", x.takeBack(1), -3);
        Due.is("it still goes on", x.moveOf(1, 3), 1);
        Due.is("move -1", x.takeBack(-1), -1);
    }

    private static void told() {
        SwitchSeven x = Due.withAccounts(2);
        x.days(2);
        x.ask(1, 7, false);
        Due.is("no move", x.moveOf(1, 9), -1);
        Due.is("what 9", x.moveOf(0, 9), -2);
        Due.is("what -1", x.moveOf(0, -1), -2);
        long[] asked = {1, 2, 0, 1, 0, 0, -9, 2, -9};
        for (int what = 0; what < 9; what++) {
            Due.is("as asked, " + what, x.moveOf(0, what), asked[what]);
        }
        x.late(7, 3);
        x.late(1, 4);
        x.days(20);
        long[] over = {1, 2, 7, 0, 0, 2, 7, 2, 15};
        for (int what = 0; what < 9; what++) {
            Due.is("at the end, " + what, x.moveOf(0, what), over[what]);
        }
    }

    private static void jointWithNameZero() {
        SwitchSeven x = new SwitchSeven();
        x.account(0, 5, 0);
        x.ask(0, 1, false);
        Due.is("the NAME 0 can agree", x.agree(0), 1);
        Due.is("and be LIKE", x.like(0, 0), 2);
    }

    private static void capOfTheOldBank() {
        SwitchSeven x = new SwitchSeven();
        for (int i = 0; i < 3; i++) {
            x.account(0, i, -1);
            x.ask(i * 2, 1 + i, false);
        }
        x.bank(0, 1, 2);
        x.days(2);
        for (int i = 0; i < 3; i++) {
            Due.is("two of three steps, " + i, x.moveOf(i, 2), i < 2 ? 1 : 0);
        }
        x.takeBack(0);
        x.bank(0, 1, 1);
        x.bank(2, 1, 1);
        x.account(2, 9, -1);
        x.ask(6, 3, false);
        x.days(2);
        Due.is("the old one of one is the new one of another: CAP is one for both", x.moveOf(1, 2), 3);
        Due.is("so no step", x.moveOf(3, 2), 0);
    }

    private static void lateAndCaps() {
        SwitchSeven x = Due.withAccounts(2);
        x.late(0, 0);
        x.late(0, 1);
        x.late(3, 1);
        x.late(3, 2);
        x.late(0, 5);
        x.bank(3, 1, 1);
        x.ask(0, 3, false);
        x.ask(1, 3, false);
        x.days(2);
        Due.is("not on the day of the ask; of both one FAULT", x.moveOf(0, 5), 1);
        Due.is("of the old one", x.moveOf(0, 6), 0);
        Due.is("the other's old one was not LATE", x.moveOf(1, 6), 3);
        x.days(1);
        Due.is("of the new one", x.moveOf(0, 5), 2);
        Due.is("the first stays", x.moveOf(0, 6), 0);
        Due.is("no step", x.moveOf(0, 8), -9);
        x.days(1);
        Due.is("CAP 1: the first", x.moveOf(0, 2), 1);
        Due.is("CAP 1: not the second", x.moveOf(1, 2), 0);
        Due.is("CAP is no FAULT", x.moveOf(1, 5), 2);
        x.bank(3, 1, 0);
        x.days(1);
        Due.is("CAP 0", x.moveOf(0, 2), 1);
        x.days(2);
        Due.is("LATE on a Saturday is no FAULT", x.moveOf(0, 5), 2);
        x.bank(3, 1, 99);
        x.bank(0, 1, 0);
        x.days(1);
        Due.is("the old BANK's CAP", x.moveOf(0, 2), 1);
        Due.is("is not the other's", x.moveOf(1, 2), 1);
        x.bank(0, 1, 5);
        x.bank(3, 1, 1);
        x.late(0, 8);
        x.days(1);
        Due.is("a LATE one uses no CAP", x.moveOf(1, 2), 2);
    }

    private static SwitchSeven overdrawnOne(boolean partly) {
        SwitchSeven x = Due.withAccounts(2);
        x.over(0, 100);
        x.line(0, 0, 1, 60, 0, 0);
        x.ask(0, 2, partly);
        return x;
    }

    private static void overdrawn() {
        SwitchSeven x = overdrawnOne(false);
        x.days(8);
        Due.is("REFUSED at step 5", x.moveOf(0, 4), 2);
        Due.is("STEPS", x.moveOf(0, 2), 5);
        SwitchSeven y = overdrawnOne(true);
        y.days(20);
        Due.is("not partly", y.moveOf(0, 2), 7);
        SwitchSeven z = overdrawnOne(false);
        Due.rule(z, "0", 2, 7);
        z.days(10);
        Due.is("OVERDRAWN is not above 0", z.moveOf(0, 2), 7);
        Due.is("what is below 0 goes along", z.sum(2), -60);
        Due.is("NET of the old BANK", z.net(0), 60);
        Due.is("NET of the new BANK", z.net(2), -60);
        SwitchSeven v = Due.withAccounts(1);
        v.ask(0, 1, false);
        v.days(10);
        Due.is("SUM 0 is not below", v.moveOf(0, 2), 7);
    }

    private static void isOverdrawn(String text, boolean refused) {
        SwitchSeven x = new SwitchSeven();
        x.account(4, 1, 2);
        x.account(5, 3, -1);
        x.over(0, 100);
        x.line(0, 0, 1, 60, 0, 0);
        x.line(1, 0, 1, 1000, 1000, 5);
        x.days(1);
        x.ask(0, 6, false);
        x.agree(0);
        x.late(4, 3);
        Due.rule(x, text, 2, 1);
        x.days(9);
        Due.is("steps", x.moveOf(0, 2), 5);
        Due.is("OVERDRAWN by " + text, x.moveOf(0, 4), refused ? 2 : 0);
    }

    private static void lettersOfOverdrawn() {
        isOverdrawn("(b=4)", true);
        isOverdrawn("(t=6)", true);
        isOverdrawn("(s=0-60)", true);
        isOverdrawn("(o=100)", true);
        isOverdrawn("(j=1)", true);
        isOverdrawn("(l=2)", true);
        isOverdrawn("(d=8)", true);
        isOverdrawn("(d=7)", false);
        isOverdrawn("n+f+w", false);
        isOverdrawn("0-5", false);
    }

    private static void whole() {
        SwitchSeven x = Due.withAccounts(2);
        x.put(0, 1000);
        x.line(1, 0, 1, 1, 100, 1);
        x.line(2, 0, 1, 1, 100, 1);
        x.line(3, 0, 1, 1, 100, 1);
        x.line(0, 0, 1, 1, 100, 1);
        x.line(1, 1, 0, 1, 100, 1);
        x.line(1, 0, 1, 1, 100, 1);
        x.end(5);
        x.ask(0, 2, false);
        x.days(8);
        Due.is("not ahead of step 6", x.lineOf(0, 1), 0);
        x.days(1);
        for (int i = 0; i < 4; i++) {
            Due.is("from the new one then, " + i, x.lineOf(i, 1), 2);
        }
        Due.is("to the old one as it was", x.lineOf(4, 2), 0);
        Due.is("the ENDED one too", x.lineOf(5, 1), 2);
        Due.is("SUM is still there", x.sum(0), 1000);
        x.days(1);
        Due.is("step 7", x.sum(2), 1000);
        Due.is("NET of the old BANK", x.net(0), -1000);
        Due.is("NET of the new BANK", x.net(2), 1000);
        Due.is("goes on no more", x.moveOf(0, 3), 0);
    }

    private static void partly() {
        SwitchSeven x = Due.withAccounts(2);
        x.put(0, 1000);
        for (int kind = 0; kind < 4; kind++) {
            x.line(kind, 0, 1, 1, 100, 1);
        }
        x.ask(0, 2, true);
        x.days(10);
        for (int kind = 0; kind < 4; kind++) {
            Due.is("ORDERS alone, " + kind, x.lineOf(kind, 1), kind == 1 ? 2 : 0);
        }
        Due.is("SUM stays", x.sum(0), 1000);
        Due.is("it stays OPEN", x.accountOf(0, 1), 0);
        Due.is("the new one too", x.accountOf(2, 1), 0);
        Due.is("MOVED to none", x.accountOf(0, 2), -9);
        Due.is("all steps", x.moveOf(0, 2), 7);
        Due.is("goes on no more", x.count(5), 0);
        Due.is("may be asked again", x.ask(0, 3, false), 1);
    }

    private static void leastMoveIsAtFault() {
        SwitchSeven x = Due.withAccounts(2);
        x.bank(0, 0, 10);
        x.ask(0, 2, false);
        x.takeBack(0);
        x.late(3, 1);
        x.ask(0, 3, false);
        x.days(2);
        x.takeBack(1);
        x.late(4, 3);
        x.ask(0, 4, false);
        x.days(2);
        Due.is("FAULT of bank 4", x.moveOf(2, 6), 4);
        x.line(0, 0, 1, 5, 4, 0);
        x.days(1);
        Due.is("the least MOVE that had FAULTS, over as it is", x.owes(3), 10);
        Due.is("not a later one", x.owes(4), 0);
        Due.is("owes of bank 8", x.owes(8), -1);
        Due.is("owes of bank -1", x.owes(-1), -1);
    }
}
