/** Promises 7 to 14. */
public final class AccountsTest {
    public static void main(String[] args) {
        accounts();
        puts();
        overs();
        closes();
        sumsThatWere();
        accountsTold();
        sends();
        chains();
        Due.finish();
    }

    private static void accounts() {
        SwitchSeven x = new SwitchSeven();
        Due.is("bank 8", x.account(8, -1, -2), -1);
        Due.is("bank -1", x.account(-1, 0, -1), -1);
        Due.is("name below", x.account(0, -1, -1), -4);
        Due.is("joint below", x.account(0, 10000, -2), -4);
        Due.is("name above", x.account(0, 10000, -1), -6);
        Due.is("joint above", x.account(0, 0, 10000), -6);
        for (int i = 0; i < 40; i++) {
            Due.is("account " + i, x.account(i % 8, 9999, i == 0 ? 9999 : -1), i);
        }
        Due.is("a 41st", x.account(0, 0, -1), -6);
        Due.is("a 41st below", x.account(0, -1, -1), -4);
        Due.is("ACCOUNTS", x.count(1), 40);
        Due.is("those OPEN", x.count(2), 40);
        Due.is("BANK of the last", x.accountOf(39, 0), 7);
    }

    private static void puts() {
        SwitchSeven x = Due.withAccounts(2);
        Due.is("no account", x.put(2, 1), Due.no(-1));
        Due.is("account -1", x.put(-1, 1), Due.no(-1));
        Due.is("0 pence", x.put(0, 0), Due.no(-4));
        Due.is("100000 pence", x.put(0, 100000), Due.no(-6));
        Due.is("99999 pence", x.put(0, 99999), 99999);
        Due.is("a penny", x.put(0, 1), 100000);
        Due.is("the other has none", x.sum(1), 0);
        x.close(1);
        Due.is("CLOSED, told ahead of the number", x.put(1, 0), Due.no(-3));
        x.ask(0, 1, false);
        Due.is("the new one of a MOVE takes pence", x.put(2, 5), 5);
        x.days(10);
        Due.is("MOVED", x.put(0, 1), Due.no(-3));
        Due.is("both SUMS are there", x.sum(2), 100005);
        Due.is("none is left", x.sum(0), 0);
        Due.is("sum of nobody", x.sum(3), Due.no(-1));
        Due.is("sum of -1", x.sum(-1), Due.no(-1));
    }

    private static void overs() {
        SwitchSeven x = Due.withAccounts(2);
        Due.is("no account", x.over(2, -1), -1);
        Due.is("below", x.over(0, -1), -4);
        Due.is("above", x.over(0, 100000), -6);
        Due.is("99999", x.over(0, 99999), 0);
        Due.is("was 99999", x.over(0, 0), 99999);
        Due.is("was 0", x.over(0, 10), 0);
        Due.is("accountOf 5", x.accountOf(0, 5), 10);
        x.close(1);
        Due.is("of a CLOSED one too", x.over(1, 3), 0);
    }

    private static void closes() {
        SwitchSeven x = Due.withAccounts(3);
        Due.is("no account", x.close(3), -1);
        Due.is("SUM 0", x.close(0), 1);
        Due.is("again", x.close(0), -3);
        x.put(1, 1);
        Due.is("SUM above 0", x.close(1), -3);
        x.over(2, 5);
        x.line(0, 2, 1, 5, 0, 0);
        x.days(1);
        Due.is("SUM below 0", x.close(2), -3);
        x.put(2, 5);
        Due.is("a MOVE", x.ask(2, 4, true), 0);
        Due.is("in a MOVE", x.close(2), -3);
        Due.is("as the new one of a MOVE", x.close(3), -3);
        Due.is("taken back", x.takeBack(0), 1);
        Due.is("the new one is CLOSED then", x.close(3), -3);
        Due.is("the old one can be", x.close(2), 1);
        Due.is("those OPEN", x.count(2), 1);
    }

    private static void sumsThatWere() {
        SwitchSeven x = Due.withAccounts(1);
        Due.is("no account", x.was(1, -1), Due.no(-1));
        Due.is("below", x.was(0, -1), Due.no(-4));
        Due.is("today", x.was(0, 0), Due.no(-6));
        x.put(0, 10);
        x.days(6);
        Due.is("day 0", x.was(0, 0), 10);
        x.put(0, 5);
        Due.is("today's change is not there yet", x.was(0, 5), 10);
        x.account(1, 5, -1);
        x.put(1, 7);
        x.days(1);
        Due.is("a Sunday has its end too", x.was(0, 6), 15);
        Due.is("of one not there yet", x.was(1, 5), 0);
        Due.is("of the day on which it was made", x.was(1, 6), 7);
        Due.is("not passed", x.was(1, 7), Due.no(-6));
        Due.is("far ahead", x.was(1, Integer.MAX_VALUE), Due.no(-6));
        x.days(1493);
        Due.is("day 1499", x.was(1, 1499), 7);
        Due.is("day 1500", x.was(1, 1500), Due.no(-6));
        x.account(2, 6, -1);
        Due.is("made on day 1500", x.was(2, 1499), 0);
    }

    private static void accountsTold() {
        SwitchSeven x = Due.withAccounts(2);
        Due.is("no account", x.accountOf(2, 7), -1);
        Due.is("what 7", x.accountOf(0, 7), -2);
        Due.is("what -1", x.accountOf(0, -1), -2);
        long[] open = {0, 0, -9, -9, 0, 0, 0};
        for (int what = 0; what < 7; what++) {
            Due.is("of an OPEN one, " + what, x.accountOf(0, what), open[what]);
        }
        x.over(0, 77);
        x.ask(0, 5, false);
        x.days(10);
        long[] moved = {0, 2, 2, 9, 2, 77, 0};
        for (int what = 0; what < 7; what++) {
            Due.is("of a MOVED one, " + what, x.accountOf(0, what), moved[what]);
        }
        Due.is("OVER does not go along", x.accountOf(2, 5), 0);
        x.close(2);
        Due.is("STATE of a CLOSED one", x.accountOf(2, 1), 1);
        Due.is("LAST is it all the same", x.accountOf(0, 4), 2);
    }

    private static void sends() {
        SwitchSeven x = Due.withAccounts(1);
        Due.is("no account", x.sends(1, -1), -1);
        Due.is("below", x.sends(0, -1), -4);
        Due.is("above", x.sends(0, 1501), -6);
        Due.is("itself", x.sends(0, 1500), 0);
        x.ask(0, 1, false);
        x.days(10);
        Due.is("1095 days behind day 9", x.sends(0, 1104), 1);
        Due.is("1096 days behind", x.sends(0, 1105), -9);
        Due.is("ahead of the day on which it MOVED", x.sends(0, 0), 1);
        x.close(1);
        Due.is("to a CLOSED one too", x.sends(0, 20), 1);
        Due.is("of a CLOSED one", x.sends(1, 20), 1);
        Due.rule(x, "10*t+b", 1, 50);
        Due.is("the rule is not in force yet", x.sends(0, 49), 1);
        Due.is("the rule is in force: 41 behind, 10 at most", x.sends(0, 50), -9);
        Due.rule(x, "d-1", 1, 60);
        Due.is("d is 91 then", x.sends(0, 100), -9);
        Due.rule(x, "d", 1, 60);
        Due.is("of several the one told last", x.sends(0, 100), 1);
        Due.rule(x, "(d=51)*d", 1, 60);
        Due.is("d on day 60", x.sends(0, 60), 1);
        Due.is("d on day 61", x.sends(0, 61), -9);
        Due.rule(x, "s+o+j+l+n+f+w+52", 1, 60);
        Due.is("other letters are 0, 52 behind", x.sends(0, 61), 1);
        Due.is("53 behind", x.sends(0, 62), -9);
    }

    private static void chains() {
        SwitchSeven x = Due.withAccounts(1);
        x.ask(0, 1, false);
        x.days(10);
        x.ask(1, 2, false);
        x.days(12);
        Due.is("LAST of the first", x.accountOf(0, 4), 2);
        Due.is("MOVED to the second", x.accountOf(0, 2), 1);
        Due.is("the second MOVED on day", x.accountOf(1, 3), 21);
        Due.is("sent on to the last", x.sends(0, 30), 2);
        Due.rule(x, "20*(b=0)+3*(b=1)", 1, 22);
        Due.is("the second not: nowhere", x.sends(0, 25), -9);
        Due.is("the second: 3 behind 21", x.sends(1, 24), 2);
        Due.is("both", x.sends(0, 24), 2);
        Due.is("the second: 4 behind 21", x.sends(1, 25), -9);
        Due.rule(x, "12*(b=0)+99*(b=1)", 1, 22);
        Due.is("the first not", x.sends(0, 24), -9);
        Due.is("the second", x.sends(1, 24), 2);
        Due.is("LAST whatever SENDS", x.accountOf(0, 4), 2);
    }
}
