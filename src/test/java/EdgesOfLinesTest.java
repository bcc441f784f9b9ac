/** What the document says of bounds in its part III and in promises 17 to 19, each sentence by itself. */
public final class EdgesOfLinesTest {
    public static void main(String[] args) {
        lineOther();
        lineNobody();
        lineTwiceTheSame();
        sums();
        firsts();
        everies();
        aPaymentsEvery();
        lineNoRoom();
        lineOrder();
        endNobody();
        endTwice();
        endedFromNowOn();
        lineOfNobody();
        lineOfOther();
        lineOfNeverDone();
        dueOnFirstAndEachEvery();
        doneOnTheFirstWorkingDay();
        lastNights();
        byDaysThenByLines();
        movesFirst();
        whyThree();
        whyTwo();
        whyFour();
        whyOne();
        theFirstThatFits();
        fromLastOrSentOn();
        feeHoweverLow();
        feeOfWhom();
        goodOfFaults();
        goodOfTheLeastMove();
        goodZeroAtLeast();
        goodIsHeld();
        owedIsHeld();
        Due.finish();
    }

    /** Two accounts at banks 0 and 1; the first is MOVED to account 2 at bank 2 in the night of day 9. */
    private static SwitchSeven moved() {
        SwitchSeven x = Due.withAccounts(2);
        x.ask(0, 2, false);
        x.days(10);
        return x;
    }

    private static void lineOther() {
        Doc.says(17, "A LINE: its number. -2;");
        SwitchSeven x = Due.withAccounts(2);
        Edge.others("KIND", kind -> x.line(kind, 0, 1, 1, 0, 1), 4, -2);
        Edge.fill("KIND", kind -> x.line(kind, 0, 1, 1, 0, 1), 4, 0);
    }

    private static void lineNobody() {
        Doc.says(17, "-1 (one twice, too)");
        SwitchSeven x = Due.withAccounts(2);
        Edge.others("from", from -> x.line(1, from, 1, 1, 0, 1), 2, -1);
        Edge.others("to", to -> x.line(1, 0, to, 1, 0, 1), 2, -1);
        Edge.others("both", account -> x.line(1, account, account, 1, 0, 1), 0, -1);
        Due.is("from the first to the last", x.line(1, 0, 1, 1, 0, 1), 0);
        Due.is("from the last to the first", x.line(1, 1, 0, 1, 0, 1), 1);
    }

    private static void lineTwiceTheSame() {
        Doc.says(0, "from an ACCOUNT, to an ACCOUNT (not the same)");
        Doc.says(17, "(one twice, too)");
        SwitchSeven x = moved();
        for (int account = 0; account < 3; account++) {
            Due.is("twice " + account, x.line(0, account, account, 1, 10, 0), -1);
        }
        Due.is("a MOVED one and that to which it MOVED are two", x.line(0, 0, 2, 1, 10, 0), 0);
    }

    private static void sums() {
        Doc.says(0, "a sum (1 .. 99999)");
        SwitchSeven x = Due.withAccounts(2);
        for (int kind = 0; kind < 4; kind++) {
            int k = kind;
            Edge.below("sum", sum -> x.line(k, 0, 1, sum, 0, 1), 1, -4);
            Edge.above("sum", sum -> x.line(k, 0, 1, sum, 0, 1), 99999, -6);
        }
        x.put(0, 99999);
        x.put(0, 1);
        Due.is("1", x.line(0, 0, 1, 1, 0, 0), 0);
        Due.is("99999", x.line(0, 0, 1, 99999, 0, 0), 1);
        x.days(1);
        Due.is("both were DONE", x.sum(1), 100000);
    }

    private static void firsts() {
        Doc.says(0, "FIRST DAY (now or later)");
        Doc.says(17, "-6 (FIRST above 1500, 60, too)");
        SwitchSeven x = Due.withAccounts(2);
        Edge.below("FIRST on day 0", first -> x.line(1, 0, 1, 1, first, 1), 0, -4);
        x.days(5);
        for (int kind = 0; kind < 4; kind++) {
            int k = kind;
            Edge.below("FIRST on day 5", first -> x.line(k, 0, 1, 1, first, 1), 5, -4);
            Edge.above("FIRST", first -> x.line(k, 0, 1, 1, first, 1), 1500, -6);
        }
        Due.is("now", x.line(1, 0, 1, 1, 5, 1), 0);
        Due.is("day 1500", x.line(1, 0, 1, 1, 1500, 1), 1);
        x.days(1495);
        Edge.below("FIRST on day 1500", first -> x.line(1, 0, 1, 1, first, 1), 1500, -4);
        Due.is("now, on day 1500", x.line(1, 0, 1, 1, 1500, 1), 2);
    }

    private static void everies() {
        Doc.says(0, "EVERY so many DAYS (1 .. 90; a PAYMENT: once)");
        Doc.says(17, "-4; -6 (FIRST above 1500, 60, too)");
        SwitchSeven x = Due.withAccounts(2);
        for (int kind = 1; kind < 4; kind++) {
            int k = kind;
            Edge.below("EVERY", every -> x.line(k, 0, 1, 1, 0, every), 1, -4);
            Edge.above("EVERY", every -> x.line(k, 0, 1, 1, 0, every), 90, -6);
        }
        x.put(0, 1000);
        Due.is("1", x.line(1, 0, 1, 1, 0, 1), 0);
        Due.is("90", x.line(1, 0, 1, 1, 0, 90), 1);
        x.days(3);
        Due.is("each day", x.lineOf(0, 3), 3);
        Due.is("day 0 alone", x.lineOf(1, 3), 1);
        x.days(88);
        Due.is("day 90 is a Sunday", x.lineOf(1, 3), 1);
        x.days(1);
        Due.is("Monday", x.lineOf(1, 3), 2);
        Due.is("91", x.lineOf(1, 8), 91);
    }

    private static void aPaymentsEvery() {
        Doc.says(17, "(Of a PAYMENT every counts nothing.)");
        SwitchSeven x = Due.withAccounts(2);
        x.put(0, 1000);
        int[] every = {0, -1, 1, 90, 91, Integer.MIN_VALUE, Integer.MAX_VALUE};
        for (int i = 0; i < every.length; i++) {
            Due.is("every " + every[i], x.line(0, 0, 1, 1, 0, every[i]), i);
        }
        x.days(200);
        for (int i = 0; i < every.length; i++) {
            Due.is("once, " + every[i], x.lineOf(i, 3), 1);
            Due.is("on day 0, " + every[i], x.lineOf(i, 8), 0);
        }
    }

    private static void lineNoRoom() {
        Doc.says(17, "-6 (FIRST above 1500, 60, too)");
        Doc.says(0, "LINES have numbers from 0 on (60 at most)");
        SwitchSeven x = Due.withAccounts(2);
        Edge.fill("line", i -> x.line(i % 4, 0, 1, 1, 0, 1), 60, 0);
        for (int kind = 0; kind < 4; kind++) {
            Due.is("a 61st", x.line(kind, 0, 1, 1, 0, 1), -6);
        }
        x.end(0);
        x.days(2);
        Due.is("an ENDED one keeps its room", x.line(1, 0, 1, 1, 2, 1), -6);
    }

    private static void lineOrder() {
        Doc.says(17, "-2; -1 (one twice, too); -4; -6 (FIRST above 1500, 60, too).");
        SwitchSeven x = Due.withAccounts(2);
        Due.is("no such KIND, nobody", x.line(4, 2, 2, 0, -1, 0), -2);
        Due.is("no such KIND, one twice", x.line(-1, 0, 0, 1, 0, 1), -2);
        Due.is("nobody, below", x.line(1, 2, 0, 0, 0, 1), -1);
        Due.is("one twice, above", x.line(1, 0, 0, 100000, 0, 1), -1);
        Due.is("sum below, FIRST above", x.line(1, 0, 1, 0, 1501, 1), -4);
        Due.is("sum below, EVERY above", x.line(1, 0, 1, 0, 0, 91), -4);
        Due.is("FIRST ahead of now, sum above", x.line(1, 0, 1, 100000, -1, 1), -4);
        Due.is("FIRST ahead of now, EVERY above", x.line(1, 0, 1, 1, -1, 91), -4);
        Due.is("EVERY below, sum above", x.line(1, 0, 1, 100000, 0, 0), -4);
        Due.is("EVERY below, FIRST above", x.line(1, 0, 1, 1, 1501, 0), -4);
        Edge.fill("line", i -> x.line(1, 0, 1, 1, 0, 1), 60, 0);
        Due.is("no such KIND, no room", x.line(4, 0, 1, 1, 0, 1), -2);
        Due.is("nobody, no room", x.line(1, 0, 2, 1, 0, 1), -1);
        Due.is("sum below, no room", x.line(1, 0, 1, 0, 0, 1), -4);
        Due.is("FIRST ahead of now, no room", x.line(1, 0, 1, 1, -1, 1), -4);
        Due.is("EVERY below, no room", x.line(1, 0, 1, 1, 0, 0), -4);
    }

    private static void endNobody() {
        Doc.says(18, "It is ENDED: 1. -1;");
        SwitchSeven x = Due.withAccounts(2);
        Edge.others("end with no line", line -> x.end(line), 0, -1);
        x.line(1, 0, 1, 1, 0, 1);
        x.line(1, 0, 1, 1, 0, 1);
        Edge.others("end", line -> x.end(line), 2, -1);
        Due.is("the first", x.end(0), 1);
        Due.is("the last", x.end(1), 1);
    }

    private static void endTwice() {
        Doc.says(18, "-3 it was.");
        SwitchSeven x = Due.withAccounts(2);
        x.line(0, 0, 1, 1, 0, 0);
        x.line(1, 0, 1, 1, 0, 1);
        x.days(1);
        Due.is("a PAYMENT that was due was not ENDED by that", x.end(0), 1);
        Due.is("now it was", x.end(0), -3);
        Due.is("another", x.end(1), 1);
        x.days(5);
        Due.is("days later", x.end(1), -3);
    }

    private static void endedFromNowOn() {
        Doc.says(0, "ENDED: told, from now on none is due.");
        SwitchSeven x = Due.withAccounts(2);
        x.put(0, 1000);
        x.line(1, 0, 1, 1, 0, 1);
        x.line(0, 0, 1, 1, 2, 0);
        x.days(2);
        x.end(0);
        x.end(1);
        x.days(30);
        Due.is("those of days 0 and 1", x.lineOf(0, 3), 2);
        Due.is("none of day 2", x.lineOf(1, 3), 0);
        Due.is("nor does one come BACK", x.lineOf(1, 4), 0);
        SwitchSeven y = Due.withAccounts(2);
        y.put(0, 1000);
        y.line(1, 0, 1, 1, 9, 1);
        y.end(0);
        y.days(20);
        Due.is("ENDED ahead of FIRST", y.lineOf(0, 3), 0);
    }

    private static void lineOfNobody() {
        Doc.says(19, "-1;");
        SwitchSeven x = Due.withAccounts(2);
        Edge.others("lineOf with no line", line -> x.lineOf(line, 0), 0, -1);
        x.line(1, 0, 1, 1, 0, 1);
        Edge.others("lineOf", line -> x.lineOf(line, 0), 1, -1);
        Due.is("nobody, no such what", x.lineOf(1, 9), -1);
    }

    private static void lineOfOther() {
        Doc.says(19, "-2.");
        SwitchSeven x = Due.withAccounts(2);
        x.line(3, 1, 0, 1, 0, 1);
        Edge.others("what", what -> x.lineOf(0, what), 9, -2);
        Due.is("the first what", x.lineOf(0, 0), 3);
        Due.is("the last what", x.lineOf(0, 8), -9);
    }

    private static void lineOfNeverDone() {
        Doc.says(19, "8 the DAY of the NIGHT on which it was DONE last (-9).");
        SwitchSeven x = Due.withAccounts(2);
        x.line(1, 0, 1, 5, 0, 1);
        x.days(2);
        Due.is("it came BACK alone", x.lineOf(0, 8), -9);
        x.put(0, 5);
        x.days(1);
        Due.is("DONE on day 2", x.lineOf(0, 8), 2);
        x.days(1);
        Due.is("BACK again", x.lineOf(0, 8), 2);
        Due.is("three times BACK", x.lineOf(0, 4), 3);
    }

    private static void dueOnFirstAndEachEvery() {
        Doc.says(0, "DUE on FIRST, and each EVERY behind.");
        SwitchSeven x = Due.withAccounts(2);
        x.put(0, 1000);
        x.line(1, 0, 1, 1, 1, 2);
        int[] done = {0, 1, 1, 2, 2, 2, 2, 4, 4, 5};
        for (int day = 0; day < done.length; day++) {
            x.days(1);
            Due.is("by the end of day " + day, x.lineOf(0, 3), done[day]);
        }
    }

    private static void doneOnTheFirstWorkingDay() {
        Doc.says(0, "is done in the NIGHT of the first WORKING one not ahead of it (if it is ENDED by then, too).");
        SwitchSeven x = Due.withAccounts(2);
        x.put(0, 1000);
        x.line(0, 0, 1, 1, 4, 0);
        x.line(0, 0, 1, 1, 5, 0);
        x.line(0, 0, 1, 1, 6, 0);
        x.line(0, 0, 1, 1, 5, 0);
        x.line(0, 0, 1, 1, 6, 0);
        x.holiday(7);
        x.days(6);
        Due.is("a WORKING day's that day", x.lineOf(0, 8), 4);
        Due.is("ENDED on Sunday", x.end(3) + x.end(4), 2);
        x.days(2);
        Due.is("not on the HOLIDAY", x.lineOf(1, 3), 0);
        x.days(1);
        Due.is("Saturday's", x.lineOf(1, 8), 8);
        Due.is("Sunday's", x.lineOf(2, 8), 8);
        Due.is("Saturday's, ENDED by then", x.lineOf(3, 8), 8);
        Due.is("Sunday's, ENDED on Sunday", x.lineOf(4, 8), -9);
    }

    private static void lastNights() {
        Doc.says(0, "DAYS go on from 0 (1500 at most).");
        Doc.says(0, "What is DUE on a DAY is done in the NIGHT");
        SwitchSeven x = Due.withAccounts(2);
        x.put(0, 1000);
        x.line(0, 0, 1, 1, 1499, 0);
        x.line(0, 0, 1, 1, 1500, 0);
        x.days(1500);
        Due.is("the last NIGHT", x.lineOf(0, 8), 1499);
        Due.is("day 1500 never passes", x.lineOf(1, 8), -9);
        Due.is("SUM", x.sum(1), 1);
    }

    private static void byDaysThenByLines() {
        Doc.says(0, "then what is DUE and was not done: by DAYS on which it was DUE, then by LINES.");
        SwitchSeven x = Due.withAccounts(2);
        x.put(0, 10);
        x.line(0, 0, 1, 10, 7, 0);
        x.line(0, 0, 1, 10, 6, 0);
        x.line(0, 0, 1, 10, 5, 0);
        x.line(0, 0, 1, 10, 5, 0);
        x.days(8);
        for (int i = 0; i < 4; i++) {
            Due.is("the least LINE of the earliest DAY, " + i, x.lineOf(i, 3), i == 2 ? 1 : 0);
        }
        SwitchSeven y = Due.withAccounts(2);
        y.put(0, 2);
        y.line(1, 0, 1, 1, 4, 1);
        y.line(0, 0, 1, 1, 5, 0);
        y.days(8);
        Due.is("day 4 of the first", y.lineOf(0, 3), 2);
        Due.is("day 5 of the first is ahead of day 5 of the second", y.lineOf(1, 3), 0);
    }

    private static void movesFirst() {
        Doc.says(0, "first MOVES (IV), then what is DUE and was not done");
        SwitchSeven x = Due.withAccounts(2);
        x.put(0, 10);
        x.ask(0, 2, false);
        x.days(9);
        x.line(0, 0, 1, 4, 9, 0);
        x.line(0, 2, 1, 5, 9, 0);
        x.days(1);
        Due.is("from the new one, in the NIGHT in which it is MOVED", x.lineOf(0, 3), 1);
        Due.is("its SUM is there", x.lineOf(1, 3), 1);
        Due.is("what is left", x.sum(2), 1);
    }

    private static void whyThree() {
        Doc.says(0, "3 from or to a MOVED one that is not SENT ON;");
        SwitchSeven x = moved();
        x.put(1, 100);
        x.put(2, 100);
        Due.rule(x, "1", 1, 10);
        x.line(2, 0, 1, 5, 10, 1);
        x.line(3, 1, 0, 5, 10, 1);
        x.line(1, 0, 1, 5, 10, 1);
        x.days(1);
        Due.is("1 behind: from it", x.lineOf(0, 3), 1);
        Due.is("1 behind: to it", x.lineOf(1, 3), 1);
        x.days(1);
        Due.is("2 behind: from it", x.lineOf(0, 6), 1);
        Due.is("2 behind: to it", x.lineOf(1, 6), 1);
        Due.is("an ORDER is from LAST", x.lineOf(2, 6), 0);
        Due.is("an ORDER was DONE twice", x.lineOf(2, 3), 2);
    }

    private static void whyTwo() {
        Doc.says(0, "2 from or to a CLOSED one;");
        SwitchSeven x = moved();
        x.put(1, 100);
        Due.is("close", x.close(2), 1);
        for (int kind = 0; kind < 4; kind++) {
            x.line(kind, 2, 1, 5, 10, 90);
            x.line(kind, 0, 1, 5, 10, 90);
            x.line(kind, 1, 0, 5, 10, 90);
        }
        x.days(1);
        for (int i = 0; i < 12; i++) {
            Due.is("from or to it, or one MOVED to it, " + i, x.lineOf(i, 5), 1);
        }
        Due.is("nothing was taken", x.sum(1), 100);
    }

    private static void whyFour() {
        Doc.says(0, "4 from and to are one then;");
        SwitchSeven x = moved();
        x.put(2, 100);
        for (int kind = 0; kind < 4; kind++) {
            x.line(kind, 0, 2, 5, 10, 90);
            x.line(kind, 2, 0, 5, 10, 90);
        }
        x.days(1);
        for (int i = 0; i < 8; i++) {
            Due.is("one MOVED to the other, " + i, x.lineOf(i, 7), 1);
        }
        Due.is("SUM", x.sum(2), 100);
    }

    private static void whyOne() {
        Doc.says(0, "1 SUM less the sum is below OVER.");
        SwitchSeven x = Due.withAccounts(2);
        x.put(0, 10);
        x.over(0, 5);
        x.line(0, 0, 1, 16, 0, 0);
        x.line(0, 0, 1, 15, 0, 0);
        x.days(1);
        Due.is("a penny too much", x.lineOf(0, 4), 1);
        Due.is("down to OVER", x.lineOf(1, 3), 1);
        x.over(0, 4);
        x.put(0, 1);
        x.line(0, 0, 1, 1, 1, 0);
        x.days(1);
        Due.is("OVER as it is now", x.lineOf(2, 4), 1);
        Due.is("OVER of the one to which counts nothing", x.over(1, 99999), 0);
        x.line(0, 0, 1, 1, 2, 0);
        x.days(1);
        Due.is("still", x.lineOf(3, 4), 1);
    }

    private static void theFirstThatFits() {
        Doc.says(0, "WHY it comes BACK (the first that fits)");
        SwitchSeven x = moved();
        x.close(1);
        Due.rule(x, "0", 1, 14);
        x.line(1, 0, 2, 5, 10, 90);
        x.line(2, 0, 1, 5, 11, 3);
        x.line(2, 0, 2, 5, 14, 90);
        x.days(1);
        Due.is("4 ahead of 1", x.lineOf(0, 7), 1);
        Due.is("not 1", x.lineOf(0, 4), 0);
        x.days(1);
        Due.is("2 ahead of 1", x.lineOf(1, 5), 1);
        Due.is("not 1 either", x.lineOf(1, 4), 0);
        x.days(3);
        Due.is("3 ahead of 2", x.lineOf(1, 6), 1);
        Due.is("2 as before", x.lineOf(1, 5), 1);
        Due.is("3 ahead of 4", x.lineOf(2, 6), 1);
        Due.is("not 4", x.lineOf(2, 7), 0);
        SwitchSeven y = moved();
        y.close(2);
        y.line(1, 0, 2, 5, 10, 90);
        y.days(1);
        Due.is("2 ahead of 4", y.lineOf(0, 5), 1);
        Due.is("not 4 then", y.lineOf(0, 7), 0);
    }

    private static void fromLastOrSentOn() {
        Doc.says(0, "from which: LAST of the ACCOUNT, but of a PULL: itself, or where it is SENT ON.");
        SwitchSeven x = moved();
        x.put(2, 100);
        for (int kind = 0; kind < 4; kind++) {
            x.line(kind, 0, 1, 1, 1498, 90);
        }
        x.days(1489);
        for (int kind = 0; kind < 4; kind++) {
            Due.is("1489 days behind, " + kind, x.lineOf(kind, kind == 2 ? 6 : 3), 1);
        }
    }

    private static void feeHoweverLow() {
        Doc.says(0, "by 1 FEE of its BANK is taken from its SUM (however low)");
        SwitchSeven x = Due.withAccounts(2);
        x.bank(0, 0, 999);
        x.line(1, 0, 1, 5, 0, 1);
        x.days(1);
        Due.is("from 0", x.sum(0), -999);
        x.days(1);
        Due.is("and again", x.sum(0), -1998);
        x.bank(0, 0, 0);
        x.days(1);
        Due.is("FEE 0", x.sum(0), -1998);
        Due.is("nobody has it", x.sum(1), 0);
        Due.is("in no NET", x.net(0), 0);
    }

    private static void feeOfWhom() {
        Doc.says(0, "As it comes BACK: of the ACCOUNT from which (of the one told, if that is not SENT ON)");
        SwitchSeven x = moved();
        x.bank(0, 0, 10);
        x.bank(2, 0, 20);
        x.line(1, 0, 1, 5, 10, 90);
        x.line(2, 0, 1, 5, 10, 90);
        x.days(1);
        Due.is("twice the FEE of the new BANK", x.sum(2), -40);
        Due.is("none of the old one", x.sum(0), 0);
        x.close(1);
        x.line(1, 0, 1, 5, 11, 90);
        x.days(1);
        Due.is("no FEE by 2", x.sum(2), -40);
        x.line(1, 0, 2, 5, 14, 90);
        x.days(3);
        Due.is("no FEE by 4", x.sum(2), -40);
        Due.rule(x, "0", 1, 15);
        x.line(2, 0, 1, 5, 15, 90);
        x.days(1);
        Due.is("no FEE by 3 of LAST", x.sum(2), -40);
        Due.is("nor of the one told", x.sum(0), 0);
        Due.is("each came BACK once", x.lineOf(2, 5) + x.lineOf(3, 7) + x.lineOf(4, 6), 3);
    }

    /** Account 0 of bank 0 is asked to go to bank 3, which is LATE on day 1: a FAULT in that night; account 1 is CLOSED. */
    private static SwitchSeven withFault() {
        SwitchSeven x = Due.withAccounts(3);
        x.close(1);
        x.bank(0, 0, 40);
        x.bank(3, 0, 60);
        x.late(3, 1);
        x.ask(0, 3, false);
        x.days(2);
        return x;
    }

    private static void goodOfFaults() {
        Doc.says(0, "and if it is the old or the new one of a MOVE that had FAULTS");
        Doc.says(0, "OWED by the BANK that had the first of these FAULTS");
        SwitchSeven x = withFault();
        x.late(0, 2);
        x.line(0, 0, 1, 5, 2, 0);
        x.line(0, 3, 1, 5, 2, 0);
        x.line(0, 2, 1, 5, 2, 0);
        x.days(1);
        Due.is("the old one", x.accountOf(0, 6), 40);
        Due.is("the new one", x.accountOf(3, 6), 60);
        Due.is("one in no MOVE", x.accountOf(2, 6), 0);
        Due.is("OWED by the first", x.owes(3), 100);
        Due.is("not by the second", x.owes(0), 0);
        SwitchSeven y = Due.withAccounts(2);
        y.bank(0, 0, 40);
        y.ask(0, 3, false);
        y.line(0, 0, 1, 5, 1, 0);
        y.days(2);
        Due.is("a MOVE without FAULTS", y.accountOf(0, 6), 0);
        Due.is("FEE alone", y.sum(0), -40);
    }

    private static void goodOfTheLeastMove() {
        Doc.says(0, "(of several the least MOVE)");
        SwitchSeven x = Due.withAccounts(2);
        x.bank(0, 0, 10);
        for (int move = 0; move < 3; move++) {
            x.ask(0, 3 + move, false);
            if (move > 0) {
                x.late(3 + move, x.count(0) + 1);
            }
            x.days(2);
            x.takeBack(move);
        }
        x.line(0, 0, 1, 5, 7, 0);
        x.days(2);
        Due.is("the first MOVE had none", x.owes(3), 0);
        Due.is("the second", x.owes(4), 10);
        Due.is("not the third", x.owes(5), 0);
        Due.is("once", x.accountOf(0, 6), 10);
    }

    private static void goodZeroAtLeast() {
        Doc.says(0, "GOOD's worth (0 at least) is given to it");
        SwitchSeven x = withFault();
        Due.rule(x, "0-1", 3, 2);
        Due.rule(x, "1", 3, 3);
        Due.rule(x, "0", 3, 4);
        x.line(1, 0, 1, 5, 2, 1);
        x.days(1);
        Due.is("-1: none is taken", x.sum(0), 0);
        Due.is("-1: none is given", x.accountOf(0, 6), 0);
        Due.is("-1: none is OWED", x.owes(3), 0);
        x.days(1);
        Due.is("1", x.sum(0), 1);
        x.days(1);
        Due.is("0", x.sum(0), 1);
        Due.is("in all", x.accountOf(0, 6), 1);
    }

    private static void goodIsHeld() {
        Doc.says(0, "are each held within 1000000000 each time; SUMS are not)");
        SwitchSeven x = withFault();
        Due.rule(x, "99999*10000+9999", 3, 2);
        Due.rule(x, "1", 3, 3);
        Due.rule(x, "99999*99999", 3, 7);
        x.line(1, 0, 1, 5, 2, 1);
        x.days(1);
        Due.is("a penny below", x.accountOf(0, 6), 999999999);
        x.days(1);
        Due.is("as much as can be", x.accountOf(0, 6), 1000000000);
        Due.is("OWED", x.owes(3), 1000000000);
        x.days(1);
        Due.is("no penny more", x.accountOf(0, 6), 1000000000);
        Due.is("OWED no more", x.owes(3), 1000000000);
        Due.is("SUM is a penny more", x.sum(0), 1000000001L);
        x.days(3);
        Due.is("SUM goes on beyond an int", x.sum(0), 4000000001L);
        Due.is("held all the same", x.accountOf(0, 6) + (long) x.owes(3), 2000000000L);
    }

    private static void owedIsHeld() {
        Doc.says(0, "(what was given to an ACCOUNT, what is OWED by a BANK in all are each held");
        SwitchSeven x = withFault();
        Due.rule(x, "60000*10000", 3, 2);
        x.line(0, 0, 1, 5, 2, 0);
        x.line(0, 3, 1, 5, 2, 0);
        x.days(1);
        Due.is("the one", x.accountOf(0, 6), 600000000);
        Due.is("the other", x.accountOf(3, 6), 600000000);
        Due.is("OWED for both", x.owes(3), 1000000000);
    }
}
