/** What the document says of bounds in its part V and in promises 25 to 34, each sentence by itself. */
public final class EdgesOfNamesTest {
    public static void main(String[] args) {
        likeNobody();
        likeBounds();
        likeByDigits();
        rivalsNobody();
        rivalsBounds();
        rivalsOneAtLeast();
        rivalsOpen();
        rivalRefusals();
        rivalNoneSuch();
        netNobody();
        netOfLastNight();
        netOfOthers();
        tellFull();
        checkNotEight();
        checkFirst();
        surgeBounds();
        surgeNineDays();
        leastOfNone();
        leastThreeDays();
        tooLateBounds();
        tooLateTwoDays();
        tooLateNone();
        tooLateEmpties();
        countMost();
        countOther();
        countRefusals();
        Due.finish();
    }

    private static void likeNobody() {
        Doc.says(25, "How NAMES are LIKE: 2, 1, 0. -1;");
        SwitchSeven x = Due.withAccounts(2);
        Edge.others("like", account -> x.like(account, 0), 2, -1);
        Due.is("nobody, below", x.like(2, -1), -1);
        Due.is("nobody, above", x.like(2, 10000), -1);
    }

    private static void likeBounds() {
        Doc.says(25, "-4; -6.");
        SwitchSeven x = Due.withAccounts(1);
        Edge.below("like", name -> x.like(0, name), 0, -4);
        Edge.above("like", name -> x.like(0, name), 9999, -6);
        Due.is("0", x.like(0, 0), 2);
        Due.is("9999", x.like(0, 9999), 0);
    }

    private static void likeByDigits() {
        Doc.says(0, "NAMES are LIKE: 2 the same as the NAME or the other one; 1 but for one of four digits; 0.");
        SwitchSeven x = new SwitchSeven();
        x.account(0, 0, -1);
        x.account(0, 9999, -1);
        x.account(0, 1234, 8765);
        x.account(0, 1234, 1235);
        int[] oneOfZero = {1, 9, 10, 90, 100, 900, 1000, 9000};
        for (int name : oneOfZero) {
            Due.is("one digit of 0000, " + name, x.like(0, name), 1);
        }
        int[] twoOfZero = {11, 101, 110, 1001, 1010, 1100, 9900, 9999};
        for (int name : twoOfZero) {
            Due.is("two digits of 0000, " + name, x.like(0, name), 0);
        }
        int[] oneOfNines = {9998, 9989, 9899, 8999, 999, 9099, 9909, 9990};
        for (int name : oneOfNines) {
            Due.is("one digit of 9999, " + name, x.like(1, name), 1);
        }
        Due.is("the NAME", x.like(2, 1234), 2);
        Due.is("the other one", x.like(2, 8765), 2);
        Due.is("one digit of the NAME", x.like(2, 1934), 1);
        Due.is("one digit of the other one", x.like(2, 8065), 1);
        Due.is("half of each", x.like(2, 1265), 0);
        Due.is("the same digits in another order", x.like(2, 2134), 0);
        Due.is("one less, four digits", x.like(1, 0), 0);
        Due.is("1 of the NAME, 2 of the other one", x.like(3, 1235), 2);
    }

    private static void rivalsNobody() {
        Doc.says(26, "RIVALS. -1;");
        SwitchSeven x = Due.withAccounts(8);
        Edge.others("rivals", bank -> x.rivals(bank, 0), 8, -1);
        Due.is("nobody, below", x.rivals(8, -1), -1);
        Due.is("nobody, above", x.rivals(-1, 10000), -1);
        Due.is("bank 7", x.rivals(7, 7777), 1);
    }

    private static void rivalsBounds() {
        Doc.says(26, "-4; -6.");
        SwitchSeven x = new SwitchSeven();
        x.account(0, 0, -1);
        x.account(0, 9999, -1);
        Edge.below("rivals", name -> x.rivals(0, name), 0, -4);
        Edge.above("rivals", name -> x.rivals(0, name), 9999, -6);
        Due.is("0", x.rivals(0, 0), 1);
        Due.is("9999", x.rivals(0, 9999), 1);
    }

    private static void rivalsOneAtLeast() {
        Doc.says(0, "a name is LIKE most (and 1 at least).");
        SwitchSeven x = new SwitchSeven();
        Due.is("no ACCOUNT", x.rivals(0, 1111), 0);
        x.account(0, 2222, -1);
        Due.is("LIKE 0", x.rivals(0, 1111), 0);
        x.account(0, 1112, -1);
        x.account(0, 1113, -1);
        Due.is("LIKE 1, twice", x.rivals(0, 1111), 2);
        x.account(0, 5, 1111);
        Due.is("LIKE 2, once", x.rivals(0, 1111), 1);
        Due.is("another BANK", x.rivals(1, 1111), 0);
    }

    private static void rivalsOpen() {
        Doc.says(0, "RIVALS: how many ACCOUNTS of a BANK, that are OPEN,");
        SwitchSeven x = new SwitchSeven();
        x.account(0, 1111, -1);
        x.account(0, 1111, -1);
        x.account(0, 1112, -1);
        x.close(0);
        Due.is("a CLOSED one is none", x.rivals(0, 1111), 1);
        x.ask(1, 1, false);
        Due.is("one in a MOVE is OPEN", x.rivals(0, 1111), 1);
        Due.is("the new one is OPEN", x.rivals(1, 1111), 1);
        x.days(10);
        Due.is("a MOVED one is none: LIKE 1 is most then", x.rival(0, 1111, 0), 2);
        SwitchSeven y = Due.withAccounts(1);
        Due.is("ACCOUNT 0", y.rival(0, 0, 0), 0);
    }

    private static void rivalRefusals() {
        Doc.says(27, "-1; -4; -6.");
        SwitchSeven x = Due.withAccounts(1);
        Edge.others("rival", bank -> x.rival(bank, 0, 0), 8, -1);
        Edge.below("rival", name -> x.rival(0, name, 0), 0, -4);
        Edge.above("rival", name -> x.rival(0, name, 0), 9999, -6);
        Due.is("nobody, below", x.rival(8, -1, 0), -1);
        Due.is("nobody, above, none such", x.rival(8, 10000, 5), -1);
        Due.is("below, none such", x.rival(0, -1, -1), -4);
        Due.is("above, none such", x.rival(0, 10000, 5), -6);
    }

    private static void rivalNoneSuch() {
        Doc.says(27, "The i-th of them; -9 none such.");
        SwitchSeven x = new SwitchSeven();
        Edge.others("rival of none", i -> x.rival(0, 0, i), 0, -9);
        x.account(1, 1111, -1);
        x.account(0, 1111, -1);
        x.account(0, 1112, -1);
        x.account(0, 1111, -1);
        Edge.others("rival of two", i -> x.rival(0, 1111, i), 2, -9);
        Due.is("the first", x.rival(0, 1111, 0), 1);
        Due.is("the last", x.rival(0, 1111, 1), 3);
        for (int what = 11; what <= 16; what++) {
            Due.is("that is no refusal", x.count(what), 0);
        }
    }

    private static void netNobody() {
        Doc.says(28, "NET of the last NIGHT gone through. -1.");
        SwitchSeven x = new SwitchSeven();
        Edge.others("net", x::net, 8, Due.no(-1));
        Due.is("bank 0, no NIGHT yet", x.net(0), 0);
        Due.is("bank 7, no NIGHT yet", x.net(7), 0);
    }

    private static void netOfLastNight() {
        Doc.says(0, "NETS of the last NIGHT that was gone through (a WORKING one)");
        SwitchSeven x = Due.withAccounts(2);
        x.put(0, 100);
        x.line(0, 0, 1, 30, 4, 0);
        x.days(5);
        Due.is("Friday", x.net(0), -30);
        x.days(2);
        Due.is("Saturday and Sunday are none", x.net(0), -30);
        x.holiday(7);
        x.days(1);
        Due.is("a HOLIDAY is none", x.net(1), 30);
        x.days(1);
        Due.is("a NIGHT in which nothing is DUE", x.net(0), 0);
        Due.is("of the other", x.net(1), 0);
    }

    private static void netOfOthers() {
        Doc.says(0, "of each BANK what came to its ACCOUNTS from others' less what went (by LINES and step 7).");
        SwitchSeven x = new SwitchSeven();
        x.account(0, 1, -1);
        x.account(0, 2, -1);
        x.account(1, 3, -1);
        x.put(0, 100);
        x.bank(0, 0, 9);
        x.line(0, 0, 1, 40, 0, 0);
        x.line(0, 1, 2, 15, 0, 0);
        x.line(0, 2, 0, 5, 0, 0);
        x.line(0, 0, 2, 99999, 0, 0);
        x.put(2, 50);
        x.days(1);
        Due.is("within a BANK, by hand, BACK and FEE: in none", x.net(0), -10);
        Due.is("the other", x.net(1), 10);
        Due.is("SUM", x.sum(0), 100 - 40 + 5 - 9);
        x.ask(0, 7, false);
        x.put(3, 20);
        x.days(1);
        x.takeBack(0);
        Due.is("what goes back from a REFUSED one: in none", x.net(7), 0);
    }

    private static void tellFull() {
        Doc.says(29, "A number more of the row of longs: how many. -6 8.");
        SwitchSeven x = new SwitchSeven();
        long[] row = {0, Long.MIN_VALUE, Long.MAX_VALUE, -1, 1, 1L << 32, 4000000000000000001L, -9};
        Edge.fill("tell", i -> x.tell(row[i]), 8, 1);
        Due.is("a ninth", x.tell(0), -6);
        Due.is("a tenth", x.tell(Long.MIN_VALUE), -6);
        Due.is("8", x.count(8), 8);
        Due.is("check", x.check(), 1);
        Due.is("room again", x.tell(0), 1);
    }

    private static void checkNotEight() {
        Doc.says(30, "The row of longs, which has none then, is checked. -3 not 8 (it stays).");
        SwitchSeven x = new SwitchSeven();
        for (int n = 0; n < 8; n++) {
            Due.is("check of " + n, x.check(), -3);
            Due.is("it stays", x.count(8), n);
            Due.is("tell", x.tell(0), n + 1);
        }
        Due.is("check of 8", x.check(), -9);
        Due.is("it has none then", x.count(8), 0);
        Due.is("check of none", x.check(), -3);
    }

    private static void checkFirst() {
        Doc.says(0, "A row of 8 longs is checked: the first BANK of which it tells another number; -9 none.");
        SwitchSeven x = Due.withAccounts(8);
        x.put(0, 99999);
        for (int bank = 1; bank < 8; bank++) {
            x.line(0, 0, bank, bank, 0, 0);
        }
        x.days(1);
        for (int wrong = 0; wrong <= 8; wrong++) {
            for (int bank = 0; bank < 8; bank++) {
                long net = bank == 0 ? -28 : bank;
                x.tell(bank < wrong ? net : net + (1L << 32));
            }
            Due.is("wrong from " + wrong + " on", x.check(), wrong == 8 ? -9 : wrong);
            Due.is("it has none then", x.count(8), 0);
        }
        for (int bank = 0; bank < 8; bank++) {
            x.tell(bank == 0 ? -28 : bank == 7 ? 6 : bank);
        }
        Due.is("the last alone", x.check(), 7);
    }

    private static void surgeBounds() {
        Doc.says(0, "asks that come on days 0, 1, .. (0 .. 127 each; 9 days at most)");
        Doc.says(31, "-4; -6 (127; 9 days).");
        SwitchSeven x = new SwitchSeven();
        Edge.below("surge", n -> x.surge(n), 0, -4);
        Edge.above("surge", n -> x.surge(n), 127, -6);
        Due.is("none came", x.count(9), 0);
        Due.is("0", x.surge(0), 1);
        Due.is("127", x.surge(127), 2);
        Due.is("127 in three days", x.least(), 43);
    }

    private static void surgeNineDays() {
        Doc.says(31, "A byte more of the SURGE: how many days.");
        Doc.says(31, "-6 (127; 9 days).");
        SwitchSeven x = new SwitchSeven();
        Edge.fill("surge", i -> x.surge(127), 9, 1);
        Due.is("a tenth", x.surge(0), -6);
        Due.is("a tenth, above", x.surge(128), -6);
        Due.is("a tenth, below", x.surge(-1), -4);
        Due.is("9", x.count(9), 9);
        Due.is("it is as it was", x.least(), 104);
    }

    private static void leastOfNone() {
        Doc.says(32, "LEAST by the SURGE.");
        SwitchSeven x = new SwitchSeven();
        Due.is("no day", x.least(), 0);
        x.surge(0);
        x.surge(0);
        Due.is("days without an ask", x.least(), 0);
        x.surge(1);
        Due.is("one ask", x.least(), 1);
        Due.is("it stays", x.count(9), 3);
    }

    private static int leastOf(int... asks) {
        SwitchSeven x = new SwitchSeven();
        for (int n : asks) {
            x.surge(n);
        }
        int least = x.least();
        Due.is("least twice", x.least(), least);
        return least;
    }

    private static void leastThreeDays() {
        Doc.says(0, "each has to be begun on its day or one of the two behind it.");
        Doc.says(0, "LEAST: how many a day must be begun at most, so that all can be.");
        Due.is("3", leastOf(3), 1);
        Due.is("4", leastOf(4), 2);
        Due.is("3, 1", leastOf(3, 1), 1);
        Due.is("3, 2", leastOf(3, 2), 2);
        Due.is("0, 0, 127", leastOf(0, 0, 127), 43);
        Due.is("6, 6, 6", leastOf(6, 6, 6), 4);
        Due.is("6, 0, 0, 6", leastOf(6, 0, 0, 6), 2);
        Due.is("days behind the last are there", leastOf(0, 0, 0, 0, 0, 0, 0, 0, 6), 2);
        Due.is("127 each", leastOf(127, 127, 127, 127, 127, 127, 127, 127, 127), 104);
    }

    private static void tooLateBounds() {
        Doc.says(33, "By a number a day (0 .. 999): that day; -9 none.");
        Doc.says(33, "-4; -6.");
        SwitchSeven x = new SwitchSeven();
        x.surge(1);
        Edge.below("tooLate", cap -> x.tooLate(cap), 0, -4);
        Edge.above("tooLate", cap -> x.tooLate(cap), 999, -6);
        Due.is("refused: the SURGE stays", x.count(9), 1);
        Due.is("0", x.tooLate(0), 2);
        x.surge(1);
        Due.is("999", x.tooLate(999), -9);
    }

    private static int tooLateOf(int cap, int... asks) {
        SwitchSeven x = new SwitchSeven();
        for (int n : asks) {
            x.surge(n);
        }
        return x.tooLate(cap);
    }

    private static void tooLateTwoDays() {
        Doc.says(0, "the first day at whose end one is left that came two days ahead or earlier; -9 none.");
        Doc.says(0, "Of a number a day (they are begun as they came)");
        Due.is("3 a day of 9: none is left of day 0", tooLateOf(3, 9), -9);
        Due.is("3 a day of 10: one is left", tooLateOf(3, 10), 2);
        Due.is("as many as can be on two days", tooLateOf(3, 9, 3), -9);
        Due.is("as they came: one of day 1 is left", tooLateOf(3, 9, 4), 3);
        Due.is("the second day's are begun in time", tooLateOf(3, 6, 6), -9);
        Due.is("0 a day, asked on day 1", tooLateOf(0, 0, 1), 3);
        Due.is("the last day there is", tooLateOf(0, 0, 0, 0, 0, 0, 0, 0, 0, 1), 10);
        Due.is("one too many on the last", tooLateOf(2, 0, 0, 0, 0, 0, 0, 0, 0, 7), 10);
        Due.is("a full number", tooLateOf(103, 127, 127, 127, 127, 127, 127, 127, 127, 127), 10);
        Due.is("the first of several", tooLateOf(0, 1, 1, 1), 2);
        Due.is("what was left over", tooLateOf(42, 127), 2);
    }

    private static void tooLateNone() {
        Doc.says(33, "that day; -9 none.");
        Due.is("no day, 0 a day", tooLateOf(0), -9);
        Due.is("no ask, 0 a day", tooLateOf(0, 0, 0), -9);
        Due.is("as many as come", tooLateOf(127, 127, 127), -9);
        Due.is("LEAST is enough", tooLateOf(104, 127, 127, 127, 127, 127, 127, 127, 127, 127), -9);
    }

    private static void tooLateEmpties() {
        Doc.says(33, "The SURGE has none then.");
        SwitchSeven x = new SwitchSeven();
        x.surge(5);
        Due.is("too late", x.tooLate(0), 2);
        Due.is("none then", x.count(9), 0);
        x.surge(3);
        x.surge(0);
        Due.is("in time", x.tooLate(1), -9);
        Due.is("none then, too", x.count(9), 0);
        Due.is("LEAST", x.least(), 0);
        Edge.fill("room for nine", i -> x.surge(0), 9, 1);
    }

    private static void countMost() {
        Doc.says(34, "0 DAY, 1 ACCOUNTS, 2 those OPEN, 3 LINES not ENDED, 4 MOVES, 5 those that go on, 6 RULES,");
        Doc.says(34, "7 bytes on THE TAPE, 8 longs of the row, 9 days of the SURGE, 10 NIGHTS gone through,");
        SwitchSeven x = Due.withAccounts(10);
        for (int i = 0; i < 30; i++) {
            x.ask(i % 10, (i % 10 + 1) % 8, false);
            Due.is("MOVES", x.count(4), i + 1);
            Due.is("those that go on", x.count(5), i < 20 ? 1 : i - 19);
            if (i < 20) {
                x.takeBack(i);
            }
            Due.rule(x, "1", 0, 0);
        }
        for (int i = 0; i < 60; i++) {
            x.line(1, 0, 1, 1, 1500, 1);
        }
        x.end(59);
        Due.feed(x, "1".repeat(60));
        for (int i = 0; i < 9; i++) {
            x.surge(0);
            x.tell(0);
        }
        x.days(1500);
        int[] most = {1500, 40, 10, 59, 30, 0, 30, 60, 8, 9, 1072};
        for (int what = 0; what < most.length; what++) {
            Due.is("count(" + what + ")", x.count(what), most[what]);
        }
    }

    private static void countOther() {
        Doc.says(34, "-9 for another what.");
        SwitchSeven x = new SwitchSeven();
        Edge.others("count", x::count, 17, -9);
        Due.is("far below", x.count(Integer.MIN_VALUE + 10), -9);
        Due.is("far below, and one more", x.count(Integer.MIN_VALUE + 11), -9);
        Due.is("the first", x.count(0), 0);
        Due.is("the last", x.count(16), 0);
        Due.is("that is no refusal", x.count(12), 0);
    }

    private static void countRefusals() {
        Doc.says(34, "11 .. 16 REFUSALS -1 .. -6.");
        SwitchSeven x = Due.withAccounts(1);
        int[] times = {3, 1, 2, 4, 0, 5};
        for (int i = 0; i < times[0]; i++) {
            x.sum(1);
        }
        for (int i = 0; i < times[1]; i++) {
            x.accountOf(0, 7);
        }
        for (int i = 0; i < times[2]; i++) {
            x.check();
        }
        for (int i = 0; i < times[3]; i++) {
            x.days(0);
        }
        for (int i = 0; i < times[5]; i++) {
            x.put(0, 100000);
        }
        for (int i = 0; i < 6; i++) {
            Due.is("REFUSALS -" + (i + 1), x.count(11 + i), times[i]);
        }
    }
}
