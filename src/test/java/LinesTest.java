/** Promises 17 to 19, and how LINES are done or come BACK. */
public final class LinesTest {
    public static void main(String[] args) {
        refusals();
        room();
        dueDays();
        ends();
        orderOfDoing();
        overdraft();
        closedAndOne();
        lastAndPull();
        chargeOfTheOneThatPays();
        wage();
        good();
        goodIsHeld();
        Due.finish();
    }

    private static void refusals() {
        SwitchSeven x = Due.withAccounts(2);
        x.days(1);
        Due.is("kind 4", x.line(4, 9, 9, 0, 0, 0), -2);
        Due.is("kind -1", x.line(-1, 0, 1, 1, 1, 1), -2);
        Due.is("from nobody", x.line(1, 2, 1, 0, 0, 0), -1);
        Due.is("to nobody", x.line(1, 0, -1, 0, 0, 0), -1);
        Due.is("one twice", x.line(1, 1, 1, 0, 0, 0), -1);
        Due.is("sum 0", x.line(1, 0, 1, 0, 1501, 91), -4);
        Due.is("first ahead of now", x.line(1, 0, 1, 1, 0, 1), -4);
        Due.is("every 0", x.line(1, 0, 1, 100000, 1, 0), -4);
        Due.is("sum above", x.line(1, 0, 1, 100000, 1, 1), -6);
        Due.is("first above", x.line(1, 0, 1, 1, 1501, 1), -6);
        Due.is("every above", x.line(1, 0, 1, 1, 1, 91), -6);
        Due.is("a PAYMENT's every counts nothing", x.line(0, 0, 1, 1, 1, 91), 0);
        Due.is("below, too", x.line(0, 0, 1, 99999, 1500, 0), 1);
        Due.is("edges", x.line(3, 1, 0, 99999, 1500, 90), 2);
        Due.is("KIND", x.lineOf(2, 0), 3);
        Due.is("from", x.lineOf(2, 1), 1);
        Due.is("to", x.lineOf(2, 2), 0);
        for (int what = 3; what < 8; what++) {
            Due.is("none yet", x.lineOf(2, what), 0);
        }
        Due.is("never DONE", x.lineOf(2, 8), -9);
        Due.is("no line", x.lineOf(3, 9), -1);
        Due.is("line -1", x.lineOf(-1, 0), -1);
        Due.is("what 9", x.lineOf(0, 9), -2);
        Due.is("what -1", x.lineOf(0, -1), -2);
        x.close(0);
        Due.is("a CLOSED one may be told", x.line(0, 0, 1, 1, 1, 1), 3);
    }

    private static void room() {
        SwitchSeven x = Due.withAccounts(2);
        for (int i = 0; i < 60; i++) {
            Due.is("line " + i, x.line(1, 0, 1, 1, 0, 1), i);
        }
        Due.is("a 61st", x.line(1, 0, 1, 1, 0, 1), -6);
        Due.is("LINES", x.count(3), 60);
        x.end(5);
        Due.is("ENDED ones keep their room", x.line(1, 0, 1, 1, 0, 1), -6);
        Due.is("LINES not ENDED", x.count(3), 59);
    }

    private static void dueDays() {
        SwitchSeven x = Due.withAccounts(2);
        x.put(0, 1000);
        x.line(0, 0, 1, 1, 2, 1);
        x.line(1, 0, 1, 10, 0, 3);
        x.days(1);
        Due.is("FIRST is DUE", x.lineOf(1, 3), 1);
        Due.is("DONE last on day 0", x.lineOf(1, 8), 0);
        Due.is("the PAYMENT is not DUE yet", x.lineOf(0, 3), 0);
        x.days(2);
        Due.is("the PAYMENT on day 2", x.lineOf(0, 3), 1);
        Due.is("not every day", x.lineOf(1, 3), 1);
        x.days(1);
        Due.is("day 3", x.lineOf(1, 3), 2);
        x.days(3);
        Due.is("a Sunday's waits", x.lineOf(1, 3), 2);
        x.holiday(7);
        x.days(1);
        Due.is("and for the holiday", x.lineOf(1, 3), 2);
        x.days(1);
        Due.is("then it is DONE", x.lineOf(1, 3), 3);
        Due.is("in that NIGHT", x.lineOf(1, 8), 8);
        x.days(1);
        Due.is("DUE days go on from FIRST: day 9", x.lineOf(1, 3), 4);
        x.days(20);
        Due.is("a PAYMENT once", x.lineOf(0, 3), 1);
        Due.is("a PAYMENT that was DONE is not ENDED", x.count(3), 2);
        Due.is("sum", x.sum(1), 1 + 10 * x.lineOf(1, 3));
    }

    private static void ends() {
        SwitchSeven x = Due.withAccounts(2);
        x.put(0, 1000);
        x.line(1, 0, 1, 1, 4, 1);
        x.line(1, 0, 1, 1, 0, 1);
        Due.is("no line", x.end(2), -1);
        Due.is("line -1", x.end(-1), -1);
        x.days(6);
        Due.is("ENDED on Sunday", x.end(0), 1);
        Due.is("it was", x.end(0), -3);
        x.days(4);
        Due.is("Saturday's is done on Monday, Sunday's is not due", x.lineOf(0, 3), 2);
        Due.is("not ENDED", x.lineOf(1, 3), 10);
        Due.is("ENDED today: none today", x.end(1), 1);
        x.days(3);
        Due.is("none", x.lineOf(1, 3), 10);
        Due.is("LINES not ENDED", x.count(3), 0);
    }

    private static void orderOfDoing() {
        SwitchSeven x = Due.withAccounts(3);
        x.put(0, 10);
        x.line(0, 0, 1, 10, 6, 0);
        x.line(0, 0, 2, 10, 5, 0);
        x.days(8);
        Due.is("the later DUE day comes later", x.lineOf(0, 4), 1);
        Due.is("the earlier DUE day first", x.lineOf(1, 3), 1);
        x.put(0, 10);
        x.line(0, 0, 1, 10, 8, 0);
        x.line(0, 0, 2, 10, 8, 0);
        x.days(1);
        Due.is("on one day by numbers", x.lineOf(2, 3), 1);
        Due.is("then the other", x.lineOf(3, 4), 1);
        x.line(0, 0, 2, 10, 9, 0);
        x.line(0, 1, 0, 10, 9, 0);
        x.days(1);
        Due.is("what comes in later that NIGHT is too late", x.lineOf(4, 4), 1);
        Due.is("it came in", x.sum(0), 10);
    }

    private static void overdraft() {
        SwitchSeven x = Due.withAccounts(2);
        x.bank(0, 0, 30);
        x.over(0, 50);
        x.line(0, 0, 1, 50, 0, 0);
        x.days(1);
        Due.is("down to OVER", x.sum(0), -50);
        x.line(0, 0, 1, 1, 1, 0);
        x.days(1);
        Due.is("WHY 1", x.lineOf(1, 4), 1);
        Due.is("FEE is taken however low", x.sum(0), -80);
        Due.is("FEE goes to nobody", x.sum(1), 50);
        Due.is("no MOVE: nothing is OWED", x.owes(0), 0);
        Due.is("FEE is in no NET", x.net(0), 0);
    }

    private static void closedAndOne() {
        SwitchSeven x = Due.withAccounts(3);
        x.bank(0, 0, 30);
        x.close(1);
        x.line(0, 0, 1, 5, 0, 0);
        x.line(0, 1, 0, 5, 0, 0);
        x.days(1);
        Due.is("to a CLOSED one", x.lineOf(0, 5), 1);
        Due.is("from a CLOSED one", x.lineOf(1, 5), 1);
        Due.is("no FEE for that", x.sum(0), 0);
        x.ask(0, 3, false);
        x.line(0, 0, 3, 5, 8, 0);
        x.line(2, 3, 0, 5, 10, 90);
        x.line(1, 0, 3, 5, 9, 90);
        x.days(10);
        Due.is("not one on day 8: WHY 1", x.lineOf(2, 4), 1);
        Due.is("its FEE went along", x.sum(3), -30);
        Due.is("sent on to the same, though SUM is too low", x.lineOf(3, 7), 1);
        Due.is("from the new one to itself from step 6 on", x.lineOf(4, 7), 1);
        x.put(3, 30);
        Due.is("CLOSED", x.close(3), 1);
        x.line(0, 3, 0, 5, 11, 0);
        x.days(1);
        Due.is("WHY 2 ahead of WHY 4", x.lineOf(5, 5), 1);
        x.line(1, 2, 0, 5, 12, 1);
        x.days(3);
        Due.is("sent on to a CLOSED one", x.lineOf(6, 5), 3);
        Due.rule(x, "0", 1, 15);
        x.days(1);
        Due.is("WHY 3 ahead of WHY 2", x.lineOf(6, 6), 1);
    }

    private static void lastAndPull() {
        SwitchSeven x = Due.withAccounts(2);
        x.put(0, 1000);
        x.ask(0, 2, false);
        x.days(10);
        Due.rule(x, "3", 1, 10);
        x.line(1, 0, 1, 1, 10, 1);
        x.line(2, 0, 1, 10, 10, 1);
        x.line(3, 1, 0, 1, 10, 1);
        x.days(5);
        Due.is("an ORDER from LAST always", x.lineOf(0, 3), 5);
        Due.is("a PULL as long as it is SENT ON", x.lineOf(1, 3), 2);
        Due.is("then WHY 3", x.lineOf(1, 6), 3);
        Due.is("WHY 3 is not WHY 4", x.lineOf(1, 7), 0);
        Due.is("to one that is not SENT ON", x.lineOf(2, 6), 3);
        Due.is("from is as it was told", x.lineOf(0, 1), 0);
    }

    private static void chargeOfTheOneThatPays() {
        SwitchSeven x = Due.withAccounts(2);
        x.bank(0, 0, 7);
        x.bank(2, 0, 50);
        x.late(2, 1);
        x.ask(0, 2, false);
        x.days(11);
        Due.is("MOVED on day 10", x.accountOf(0, 3), 10);
        x.line(1, 0, 1, 5, 11, 90);
        x.days(1);
        Due.is("an ORDER is charged to LAST, and made good", x.sum(2), 0);
        Due.is("by its BANK's FEE", x.accountOf(2, 6), 50);
        Due.is("not to the one told", x.accountOf(0, 6), 0);
        Due.rule(x, "1", 1, 14);
        Due.rule(x, "f*10+w", 3, 14);
        x.line(2, 0, 1, 5, 14, 90);
        x.days(3);
        Due.is("a PULL from one that is not SENT ON", x.lineOf(1, 6), 1);
        Due.is("GOOD is of the one told", x.accountOf(0, 6), 73);
        Due.is("it has it", x.sum(0), 73);
        Due.is("not LAST", x.accountOf(2, 6), 50);
        Due.is("OWED in all", x.owes(2), 123);
        x.line(1, 2, 0, 5, 15, 90);
        x.days(1);
        Due.is("an ORDER to one that is not SENT ON", x.lineOf(2, 6), 1);
        Due.is("GOOD is of the one from which", x.accountOf(2, 6), 50 + 503);
        Due.rule(x, "99", 1, 16);
        x.line(1, 2, 0, 5, 16, 90);
        x.days(1);
        Due.is("from and to are one", x.lineOf(3, 7), 1);
        Due.is("that is not WHY 3", x.lineOf(3, 6), 0);
        Due.is("w is 4", x.accountOf(2, 6), 50 + 503 + 504);
    }

    private static void wage() {
        SwitchSeven x = Due.withAccounts(2);
        x.put(1, 100);
        x.line(3, 1, 0, 10, 5, 7);
        x.days(7);
        Due.is("a WAGE of Saturday is not there on Sunday", x.sum(0), 0);
        x.days(1);
        Due.is("it is there on Monday", x.sum(0), 10);
        Due.is("NET of Monday", x.net(0), 10);
    }

    private static SwitchSeven withFaults() {
        SwitchSeven x = Due.withAccounts(3);
        x.bank(0, 0, 40);
        x.bank(3, 0, 60);
        x.late(3, 1);
        x.late(0, 2);
        x.ask(0, 3, false);
        return x;
    }

    private static void good() {
        SwitchSeven x = withFaults();
        x.line(0, 0, 1, 5, 0, 0);
        x.days(1);
        Due.is("no FAULT yet: FEE alone", x.sum(0), -40);
        x.put(0, 40);
        x.line(0, 0, 1, 5, 1, 0);
        x.days(1);
        Due.is("GOOD makes the FEE good", x.sum(0), 0);
        Due.is("OWED by the BANK of the first FAULT", x.owes(3), 40);
        x.line(0, 0, 1, 5, 2, 0);
        x.line(0, 3, 1, 5, 2, 0);
        x.days(1);
        Due.is("FAULTS of both", x.moveOf(0, 5), 2);
        Due.is("still by the first", x.owes(3), 40 + 40 + 60);
        Due.is("not by the other", x.owes(0), 0);
        Due.is("given to the old one", x.accountOf(0, 6), 80);
        Due.is("given to the new one", x.accountOf(3, 6), 60);
        x.close(1);
        x.line(0, 0, 1, 5, 3, 0);
        x.line(0, 2, 1, 5, 3, 0);
        x.days(1);
        Due.is("by WHY 2 GOOD is given, no FEE taken", x.sum(0), 40);
        Due.is("to one of no MOVE none", x.accountOf(2, 6), 0);
        Due.rule(x, "b*10000+n*100+f+w", 3, 4);
        x.line(0, 3, 1, 7, 4, 0);
        x.days(1);
        Due.is("the letters of GOOD", x.accountOf(3, 6), 60 + 30000 + 700 + 60 + 2);
        Due.rule(x, "t+s+o+j+l+d-5", 3, 7);
        x.line(0, 3, 1, 7, 7, 0);
        x.days(3);
        Due.is("0 at least", x.sum(3), 30000 + 700 + 60 + 2);
        Due.is("DAY of the ask", x.moveOf(0, 7), 0);
    }

    private static void goodIsHeld() {
        SwitchSeven x = withFaults();
        x.days(2);
        Due.rule(x, "99999*9000", 3, 2);
        x.close(1);
        x.line(1, 0, 1, 5, 2, 1);
        x.days(1);
        Due.is("once", x.accountOf(0, 6), 899991000);
        Due.is("OWED once", x.owes(3), 899991000);
        x.days(1);
        Due.is("twice: held", x.accountOf(0, 6), 1000000000);
        Due.is("OWED: held", x.owes(3), 1000000000);
        Due.is("SUM is not", x.sum(0), 2L * 899991000L);
        x.days(1);
        Due.is("three times", x.sum(0), 3L * 899991000L);
        Due.rule(x, "(s=99999*99999)", 0, 5);
        x.takeBack(0);
        Due.is("s is held in a TEXT", x.ask(0, 4, true), 1);
    }
}
