/** What the document says of bounds in promises 7 to 14, each sentence by itself. */
public final class EdgesOfAccountsTest {
    public static void main(String[] args) {
        accountNobody();
        accountRoom();
        names();
        joints();
        accountOrder();
        putNobody();
        putNotOpen();
        putBounds();
        overNobody();
        overBounds();
        overIsTheLowest();
        closeNobody();
        closeNotOpen();
        closeSum();
        closeInMove();
        sumNobody();
        wasNobody();
        wasNotThereYet();
        wasOutside();
        accountOfNobody();
        accountOfOther();
        accountOfNotMoved();
        last();
        sendsNobody();
        sendsOutside();
        sendsItself();
        sendsNoMoreThanWorth();
        sendsAndSoOn();
        Due.finish();
    }

    /** Account 0 is asked to be MOVED to bank 1 on day 0, and MOVED to the one made last in the night of day 9. */
    private static SwitchSeven moved(int accounts) {
        SwitchSeven x = Due.withAccounts(accounts);
        x.ask(0, 1, false);
        x.days(10);
        return x;
    }

    private static void accountNobody() {
        Doc.says(7, "An ACCOUNT: its number. -1;");
        SwitchSeven x = new SwitchSeven();
        Edge.others("account at bank", bank -> x.account(bank, 0, -1), 8, -1);
        Due.is("none was made", x.count(1), 0);
        Due.is("bank 0", x.account(0, 0, -1), 0);
        Due.is("bank 7", x.account(7, 0, -1), 1);
    }

    private static void accountRoom() {
        Doc.says(7, "-6 (40, too)");
        Doc.says(0, "ACCOUNTS have numbers from 0 on (40 at most)");
        SwitchSeven x = new SwitchSeven();
        Edge.fill("account", i -> x.account(i % 8, i, -1), 40, 0);
        Due.is("a 41st", x.account(0, 0, -1), -6);
        x.close(0);
        Due.is("a CLOSED one keeps its room", x.account(0, 0, -1), -6);
        Due.is("40", x.count(1), 40);
        SwitchSeven y = Due.withAccounts(38);
        y.ask(0, 1, false);
        Due.is("the new one of a MOVE has a number too", y.account(0, 0, -1), 39);
        Due.is("and its room", y.account(0, 0, -1), -6);
    }

    private static void names() {
        Doc.says(0, "of a NAME (0 .. 9999)");
        SwitchSeven x = new SwitchSeven();
        Edge.below("NAME", name -> x.account(0, name, -1), 0, -4);
        Edge.above("NAME", name -> x.account(0, name, -1), 9999, -6);
        Due.is("0", x.account(0, 0, -1), 0);
        Due.is("9999", x.account(0, 9999, -1), 1);
        Due.is("it is 0", x.like(0, 0), 2);
        Due.is("it is 9999", x.like(1, 9999), 2);
    }

    private static void joints() {
        Doc.says(0, "JOINT with another NAME (-1: none)");
        Doc.says(7, "-4 (JOINT below -1)");
        SwitchSeven x = new SwitchSeven();
        Edge.below("JOINT", joint -> x.account(0, 5, joint), -1, -4);
        Edge.above("JOINT", joint -> x.account(0, 5, joint), 9999, -6);
        Due.is("none", x.account(0, 5, -1), 0);
        Due.is("with 0", x.account(0, 5, 0), 1);
        Due.is("with 9999", x.account(0, 5, 9999), 2);
        for (int i = 0; i < 3; i++) {
            Due.is("ask " + i, x.ask(i, 1, false), i);
        }
        Due.is("none: nobody can agree", x.agree(0), -3);
        Due.is("0 can", x.agree(1), 1);
        Due.is("9999 can", x.agree(2), 1);
    }

    private static void accountOrder() {
        Doc.says(7, "-1; -4 (JOINT below -1); -6 (40, too).");
        SwitchSeven x = new SwitchSeven();
        Due.is("no BANK, below", x.account(8, -1, -1), -1);
        Due.is("no BANK, above", x.account(8, 10000, -1), -1);
        Due.is("JOINT below, NAME above", x.account(0, 10000, -2), -4);
        Due.is("NAME below, JOINT above", x.account(0, -1, 10000), -4);
        Edge.fill("account", i -> x.account(0, i, -1), 40, 0);
        Due.is("no BANK, no room", x.account(-1, 0, -1), -1);
        Due.is("below, no room", x.account(0, -1, -1), -4);
        Due.is("JOINT below, no room", x.account(0, 0, -2), -4);
    }

    private static void putNobody() {
        Doc.says(8, "-1;");
        SwitchSeven x = Due.withAccounts(2);
        Edge.others("put", account -> x.put(account, 1), 2, Due.no(-1));
        Due.is("nobody, below", x.put(2, 0), Due.no(-1));
        Edge.others("put with no account", account -> new SwitchSeven().put(account, 1), 0, Due.no(-1));
    }

    private static void putNotOpen() {
        Doc.says(8, "-3 it is not OPEN");
        SwitchSeven x = moved(2);
        x.close(1);
        Due.is("MOVED", x.put(0, 1), Due.no(-3));
        Due.is("CLOSED", x.put(1, 1), Due.no(-3));
        Due.is("MOVED, below", x.put(0, 0), Due.no(-3));
        Due.is("CLOSED, above", x.put(1, 100000), Due.no(-3));
        Due.is("nothing came in", x.sum(0) + x.sum(1), 0);
        Due.is("OPEN", x.put(2, 1), 1);
    }

    private static void putBounds() {
        Doc.says(8, "n pence (1 .. 99999) come in by hand: SUM.");
        Doc.says(8, "-4; -6.");
        SwitchSeven x = Due.withAccounts(1);
        Edge.below("put", n -> x.put(0, n), 1, Due.no(-4));
        Edge.above("put", n -> x.put(0, n), 99999, Due.no(-6));
        Due.is("1", x.put(0, 1), 1);
        Due.is("99999", x.put(0, 99999), 100000);
        Due.is("in its SUM", x.sum(0), 100000);
    }

    private static void overNobody() {
        Doc.says(9, "-1;");
        SwitchSeven x = Due.withAccounts(2);
        Edge.others("over", account -> x.over(account, 1), 2, -1);
        Due.is("nobody, below", x.over(-1, -1), -1);
        Due.is("nobody, above", x.over(2, 100000), -1);
    }

    private static void overBounds() {
        Doc.says(0, "a SUM (pence, 0 at first), OVER (0 .. 99999; 0 at first)");
        Doc.says(9, "OVER: what it was. -1; -4; -6.");
        SwitchSeven x = Due.withAccounts(1);
        Due.is("SUM at first", x.sum(0), 0);
        Due.is("OVER at first", x.accountOf(0, 5), 0);
        Edge.below("over", n -> x.over(0, n), 0, -4);
        Edge.above("over", n -> x.over(0, n), 99999, -6);
        Due.is("99999", x.over(0, 99999), 0);
        Due.is("was 99999", x.over(0, 0), 99999);
        Due.is("was 0", x.over(0, 0), 0);
    }

    private static void overIsTheLowest() {
        Doc.says(0, "SUM may go down to that below 0.");
        SwitchSeven x = Due.withAccounts(2);
        x.over(0, 99999);
        x.line(0, 0, 1, 99999, 0, 0);
        x.days(1);
        Due.is("down to it", x.sum(0), -99999);
        x.line(0, 0, 1, 1, 1, 0);
        x.days(1);
        Due.is("no penny more", x.lineOf(1, 4), 1);
        Due.is("SUM", x.sum(0), -99999);
        SwitchSeven y = Due.withAccounts(2);
        y.put(0, 5);
        y.line(0, 0, 1, 5, 0, 0);
        y.line(0, 0, 1, 1, 0, 0);
        y.days(1);
        Due.is("down to 0", y.lineOf(0, 3), 1);
        Due.is("not below", y.lineOf(1, 4), 1);
    }

    private static void closeNobody() {
        Doc.says(10, "It is CLOSED: 1. -1;");
        SwitchSeven x = Due.withAccounts(2);
        Edge.others("close", account -> x.close(account), 2, -1);
        Due.is("all are OPEN", x.count(2), 2);
        Due.is("the last", x.close(1), 1);
        Due.is("it is CLOSED", x.accountOf(1, 1), 1);
    }

    private static void closeNotOpen() {
        Doc.says(10, "-3 not OPEN");
        SwitchSeven x = moved(2);
        Due.is("MOVED", x.close(0), -3);
        Due.is("it stays MOVED", x.accountOf(0, 1), 2);
        Due.is("OPEN", x.close(1), 1);
        Due.is("CLOSED", x.close(1), -3);
    }

    private static void closeSum() {
        Doc.says(10, "SUM is not 0");
        SwitchSeven x = Due.withAccounts(3);
        x.over(0, 1);
        x.line(0, 0, 1, 1, 0, 0);
        x.days(1);
        Due.is("a penny below", x.close(0), -3);
        Due.is("a penny above", x.close(1), -3);
        Due.is("0", x.close(2), 1);
        x.put(0, 1);
        Due.is("0 again", x.close(0), 1);
    }

    private static void closeInMove() {
        Doc.says(10, "a MOVE of it goes on (also as the new one)");
        SwitchSeven x = Due.withAccounts(2);
        x.ask(0, 1, true);
        Due.is("the old one", x.close(0), -3);
        Due.is("the new one", x.close(2), -3);
        Due.is("another", x.close(1), 1);
        x.days(9);
        Due.is("six steps: the old one", x.close(0), -3);
        Due.is("six steps: the new one", x.close(2), -3);
        x.days(1);
        Due.is("it goes on no more: the old one", x.close(0), 1);
        Due.is("the new one", x.close(2), 1);
        SwitchSeven y = Due.withAccounts(1);
        y.ask(0, 1, false);
        y.takeBack(0);
        Due.is("REFUSED: the old one", y.close(0), 1);
        Due.is("the new one is CLOSED by that", y.close(1), -3);
    }

    private static void sumNobody() {
        Doc.says(11, "SUM. -1.");
        SwitchSeven x = Due.withAccounts(2);
        Edge.others("sum", x::sum, 2, Due.no(-1));
        Due.is("the first", x.sum(0), 0);
        Due.is("the last", x.sum(1), 0);
        Edge.others("sum with no account", account -> new SwitchSeven().sum(account), 0, Due.no(-1));
    }

    private static void wasNobody() {
        Doc.says(12, "-1;");
        SwitchSeven x = Due.withAccounts(2);
        x.days(1);
        Edge.others("was", account -> x.was(account, 0), 2, Due.no(-1));
        Due.is("nobody, below", x.was(2, -1), Due.no(-1));
        Due.is("nobody, not passed", x.was(2, 1), Due.no(-1));
    }

    private static void wasNotThereYet() {
        Doc.says(12, "(0 if it was not there yet)");
        SwitchSeven x = new SwitchSeven();
        x.days(3);
        x.account(0, 1, -1);
        x.put(0, 9);
        Due.is("the day ahead, on the day", x.was(0, 2), 0);
        x.days(1);
        Due.is("the day ahead", x.was(0, 2), 0);
        Due.is("day 0", x.was(0, 0), 0);
        Due.is("the day on which it was made", x.was(0, 3), 9);
        x.ask(0, 1, false);
        x.put(1, 4);
        x.days(1);
        Due.is("the new one of a MOVE: the day ahead of the ask", x.was(1, 3), 0);
        Due.is("the day of the ask", x.was(1, 4), 4);
    }

    private static void wasOutside() {
        Doc.says(12, "SUM at the end of a DAY that passed");
        Doc.says(12, "-4; -6 not passed.");
        SwitchSeven x = Due.withAccounts(1);
        Edge.below("was on day 0", day -> x.was(0, day), 0, Due.no(-4));
        Edge.above("was on day 0", day -> x.was(0, day), -1, Due.no(-6));
        x.put(0, 1);
        x.days(6);
        x.put(0, 1);
        x.days(1);
        x.put(0, 1);
        Edge.below("was on day 7", day -> x.was(0, day), 0, Due.no(-4));
        Edge.above("was on day 7", day -> x.was(0, day), 6, Due.no(-6));
        Due.is("the end of day 0", x.was(0, 0), 1);
        Due.is("the end of day 5", x.was(0, 5), 1);
        Due.is("the end of day 6", x.was(0, 6), 2);
        x.days(1493);
        Edge.above("was on day 1500", day -> x.was(0, day), 1499, Due.no(-6));
        Due.is("the end of day 7", x.was(0, 7), 3);
        Due.is("the end of day 1499", x.was(0, 1499), 3);
    }

    private static void accountOfNobody() {
        Doc.says(13, "-1;");
        SwitchSeven x = Due.withAccounts(2);
        Edge.others("accountOf", account -> x.accountOf(account, 0), 2, -1);
        Due.is("nobody, no such what", x.accountOf(2, 7), -1);
    }

    private static void accountOfOther() {
        Doc.says(13, "6 GOOD that was given to it in all. -1; -2.");
        SwitchSeven x = Due.withAccounts(2);
        Edge.others("what", what -> x.accountOf(1, what), 7, -2);
        Due.is("the first what", x.accountOf(1, 0), 1);
        Due.is("the last what", x.accountOf(1, 6), 0);
    }

    private static void accountOfNotMoved() {
        Doc.says(13, "2 the ACCOUNT to which it MOVED (-9), 3 the DAY on which it MOVED (-9)");
        SwitchSeven x = Due.withAccounts(2);
        x.close(1);
        x.ask(0, 1, false);
        x.days(9);
        for (int i = 0; i < 3; i++) {
            Due.is("to none, " + i, x.accountOf(i, 2), -9);
            Due.is("on no DAY, " + i, x.accountOf(i, 3), -9);
        }
        x.days(1);
        Due.is("to 2", x.accountOf(0, 2), 2);
        Due.is("on day 9", x.accountOf(0, 3), 9);
        Due.is("the new one to none", x.accountOf(2, 2), -9);
        SwitchSeven y = Due.withAccounts(1);
        y.ask(0, 1, true);
        y.days(10);
        Due.is("partly: to none", y.accountOf(0, 2), -9);
        Due.is("partly: on no DAY", y.accountOf(0, 3), -9);
    }

    private static void last() {
        Doc.says(0, "LAST of an ACCOUNT: itself, or, of a MOVED one, LAST of that to which it MOVED.");
        SwitchSeven x = moved(2);
        x.ask(2, 3, false);
        x.days(12);
        x.ask(3, 4, true);
        x.days(14);
        Due.is("of the first", x.accountOf(0, 4), 3);
        Due.is("of the second", x.accountOf(2, 4), 3);
        Due.is("of the third, MOVED partly", x.accountOf(3, 4), 3);
        Due.is("of one that never MOVED", x.accountOf(1, 4), 1);
        x.close(3);
        Due.is("CLOSED", x.accountOf(0, 4), 3);
        x.close(1);
        Due.is("of a CLOSED one", x.accountOf(1, 4), 1);
    }

    private static void sendsNobody() {
        Doc.says(14, "-1;");
        SwitchSeven x = Due.withAccounts(2);
        Edge.others("sends", account -> x.sends(account, 0), 2, -1);
        Due.is("nobody, below", x.sends(2, -1), -1);
        Due.is("nobody, above", x.sends(-1, 1501), -1);
    }

    private static void sendsOutside() {
        Doc.says(14, "on a DAY (0 .. 1500; the last one)");
        Doc.says(14, "-4; -6.");
        SwitchSeven x = moved(1);
        Edge.below("sends", day -> x.sends(0, day), 0, -4);
        Edge.above("sends", day -> x.sends(0, day), 1500, -6);
        Due.is("day 0, gone by", x.sends(0, 0), 1);
        Due.is("of the new one on day 1500", x.sends(1, 1500), 1);
    }

    private static void sendsItself() {
        Doc.says(14, "itself, if it is not MOVED; -9 nowhere.");
        SwitchSeven x = moved(2);
        x.close(1);
        Due.rule(x, "0-1", 1, 10);
        Due.is("OPEN", x.sends(2, 10), 2);
        Due.is("CLOSED", x.sends(1, 10), 1);
        Due.is("MOVED: nowhere", x.sends(0, 10), -9);
        Due.is("the day ahead of the RULE", x.sends(0, 9), 2);
    }

    private static void sendsNoMoreThanWorth() {
        Doc.says(0, "SENT ON on a DAY: a MOVED one, if DAY is no more than SENDS' worth behind the one on which it MOVED");
        SwitchSeven x = moved(2);
        Due.is("1095 behind", x.sends(0, 9 + 1095), 2);
        Due.is("1096 behind", x.sends(0, 9 + 1096), -9);
        Due.rule(x, "1", 1, 10);
        Due.is("1 behind", x.sends(0, 10), 2);
        Due.is("2 behind", x.sends(0, 11), -9);
        Due.rule(x, "0", 1, 10);
        Due.is("1 behind, none allowed", x.sends(0, 10), -9);
        SwitchSeven y = Due.withAccounts(2);
        Due.rule(y, "0", 1, 0);
        y.ask(0, 1, false);
        y.days(10);
        Due.is("on the day itself", y.sends(0, 9), 2);
        Due.is("the day behind it", y.sends(0, 10), -9);
        SwitchSeven z = Due.withAccounts(2);
        z.put(1, 100);
        Due.rule(z, "0-1", 1, 0);
        z.line(1, 1, 0, 1, 0, 1);
        z.ask(0, 1, false);
        z.days(9);
        Due.is("to it until it is MOVED", z.lineOf(0, 3), 9);
        z.days(1);
        Due.is("below 0: not in the NIGHT in which it is MOVED", z.lineOf(0, 6), 1);
    }

    private static void sendsAndSoOn() {
        Doc.says(0, "to that to which it MOVED (and so on from there)");
        SwitchSeven x = moved(2);
        x.ask(2, 3, false);
        x.days(12);
        Due.is("both in time", x.sends(0, 22), 3);
        Due.rule(x, "5+100*(b=0)", 1, 22);
        Due.is("the second five behind", x.sends(0, 21 + 5), 3);
        Due.is("the second six behind", x.sends(0, 21 + 6), -9);
        Due.is("the second's own", x.sends(2, 21 + 6), -9);
        Due.rule(x, "20+100*(b=1)", 1, 22);
        Due.is("the first 20 behind", x.sends(0, 9 + 20), 3);
        Due.is("the first 21 behind", x.sends(0, 9 + 21), -9);
        Due.is("the second goes on", x.sends(2, 9 + 21), 3);
    }
}
