/** What the document says of bounds in promises 1 to 6, each sentence by itself. */
public final class EdgesOfDaysTest {
    public static void main(String[] args) {
        calls();
        newObject();
        days();
        nights();
        daysTooFew();
        daysTooMany();
        working();
        workingOutside();
        holidayGoneBy();
        holidayNoRoom();
        holidayTwice();
        holidayOrder();
        banks();
        fees();
        caps();
        bankOther();
        bankOrder();
        lateNobody();
        lateTwice();
        lateGoneBy();
        lateNoRoom();
        lateNow();
        Due.finish();
    }

    private static void calls() {
        Doc.says(0, "An object is used for at most 512 calls after it has been made; what later calls answer is free.");
        SwitchSeven x = new SwitchSeven();
        x.account(0, 1, -1);
        for (int i = 1; i <= 510; i++) {
            Due.is("call " + (i + 1), x.put(0, 1), i);
        }
        Due.is("the 512th call", x.sum(0), 510);
        x.put(0, 1);
    }

    private static void newObject() {
        Doc.says(1, "DAY 0; nothing is told.");
        SwitchSeven x = new SwitchSeven();
        for (int what = 0; what <= 16; what++) {
            Due.is("count(" + what + ")", x.count(what), 0);
        }
        for (int day = 0; day <= 10; day++) {
            Due.is("no HOLIDAY on " + day, x.isWorking(day), day % 7 < 5 ? 1 : 0);
        }
        Due.is("LEAST of no SURGE", x.least(), 0);
        Due.is("no row", x.check(), -3);
        Due.is("no TAPE", x.rule(0, 0), -20);
        for (int bank = 0; bank < 8; bank++) {
            Due.is("nothing is OWED by " + bank, x.owes(bank), 0);
            Due.is("NET of " + bank, x.net(bank), 0);
            Due.is("RIVALS of " + bank, x.rivals(bank, 0), 0);
        }
    }

    private static void days() {
        Doc.says(0, "DAYS go on from 0 (1500 at most).");
        SwitchSeven x = new SwitchSeven();
        Due.is("from 0", x.count(0), 0);
        Due.is("all but one", x.days(1499), 1499);
        Due.is("the last one", x.days(1), 1500);
        Due.is("no more", x.days(1), -6);
        Due.is("none passed", x.count(0), 1500);
        Due.is("all at once", new SwitchSeven().days(1500), 1500);
        Due.is("the first", new SwitchSeven().days(1), 1);
    }

    private static void nights() {
        Doc.says(0, "A NIGHT is gone through as its DAY passes, if it is WORKING");
        SwitchSeven x = new SwitchSeven();
        Due.is("none yet", x.count(10), 0);
        x.days(5);
        Due.is("five WORKING days", x.count(10), 5);
        x.days(1);
        Due.is("Saturday", x.count(10), 5);
        x.days(1);
        Due.is("Sunday", x.count(10), 5);
        x.days(1);
        Due.is("Monday", x.count(10), 6);
        x.holiday(8);
        x.days(1);
        Due.is("a HOLIDAY", x.count(10), 6);
    }

    private static void daysTooFew() {
        Doc.says(2, "-4 below 1");
        SwitchSeven x = new SwitchSeven();
        Edge.below("days", n -> x.days(n), 1, -4);
        x.days(1500);
        Edge.below("days at the end", n -> x.days(n), 1, -4);
        Due.is("days(1)", new SwitchSeven().days(1), 1);
    }

    private static void daysTooMany() {
        Doc.says(2, "-6 above 1500");
        SwitchSeven x = new SwitchSeven();
        Edge.above("days", n -> x.days(n), 1500, -6);
        x.days(7);
        Edge.above("days from day 7", n -> x.days(n), 1493, -6);
        Due.is("no day passed", x.count(0), 7);
        Due.is("up to day 1500", x.days(1493), 1500);
        Edge.above("days from day 1500", n -> x.days(n), 0, -6);
    }

    private static void working() {
        Doc.says(0, "A DAY is WORKING if it is modulo 7 below 5, and no HOLIDAY (told, now or later; 20 at most).");
        SwitchSeven x = new SwitchSeven();
        for (int day = 0; day <= 1500; day++) {
            Due.is("isWorking(" + day + ")", x.isWorking(day), day % 7 < 5 ? 1 : 0);
        }
        SwitchSeven y = new SwitchSeven();
        y.days(8);
        Edge.fill("holiday", i -> y.holiday(8 + i), 20, 1);
        Due.is("the day ahead of the first", y.isWorking(7), 1);
        for (int day = 8; day < 28; day++) {
            Due.is("a HOLIDAY, " + day, y.isWorking(day), 0);
        }
        Due.is("the day behind the last", y.isWorking(28), 1);
    }

    private static void workingOutside() {
        Doc.says(4, "Whether a DAY is WORKING: 1, 0. -4; -6 above 1500.");
        SwitchSeven x = new SwitchSeven();
        x.days(3);
        Edge.below("isWorking", x::isWorking, 0, -4);
        Edge.above("isWorking", x::isWorking, 1500, -6);
        Due.is("day 0, gone by", x.isWorking(0), 1);
        Due.is("day 1500", x.isWorking(1500), 1);
        Due.is("day 1497", x.isWorking(1497), 0);
    }

    private static void holidayGoneBy() {
        Doc.says(3, "-4 ahead of now");
        SwitchSeven x = new SwitchSeven();
        Edge.below("holiday on day 0", x::holiday, 0, -4);
        x.days(10);
        Edge.below("holiday on day 10", x::holiday, 10, -4);
        Due.is("day 9 is WORKING as before", x.isWorking(9), 1);
        Due.is("today", x.holiday(10), 1);
        x.days(1490);
        Edge.below("holiday on day 1500", x::holiday, 1500, -4);
        Due.is("the last day", x.holiday(1500), 2);
    }

    private static void holidayNoRoom() {
        Doc.says(3, "-6 (above 1500, 20, too)");
        SwitchSeven x = new SwitchSeven();
        Edge.above("holiday", x::holiday, 1500, -6);
        Due.is("day 1500", x.holiday(1500), 1);
        Edge.fill("holiday", i -> x.holiday(i), 19, 2);
        Due.is("a 21st", x.holiday(100), -6);
        Due.is("it is none", x.isWorking(100), 1);
        x.days(50);
        Due.is("those gone by keep their room", x.holiday(100), -6);
    }

    private static void holidayTwice() {
        Doc.says(3, "-3 it is one");
        SwitchSeven x = new SwitchSeven();
        Due.is("day 0", x.holiday(0), 1);
        Due.is("day 0 again", x.holiday(0), -3);
        Due.is("a Saturday is none by itself", x.holiday(5), 2);
        Due.is("now it is", x.holiday(5), -3);
        Due.is("day 1500", x.holiday(1500), 3);
        Due.is("day 1500 again", x.holiday(1500), -3);
        Due.is("how many, by the next", x.holiday(1), 4);
    }

    private static void holidayOrder() {
        Doc.says(3, "-4 ahead of now; -6 (above 1500, 20, too); -3 it is one.");
        SwitchSeven x = new SwitchSeven();
        Edge.fill("holiday", i -> x.holiday(i), 20, 1);
        Due.is("no room, and it is one", x.holiday(19), -6);
        x.days(2);
        Due.is("gone by, no room, and it is one", x.holiday(1), -4);
        SwitchSeven y = new SwitchSeven();
        y.holiday(0);
        y.days(1);
        Due.is("gone by, and it is one", y.holiday(0), -4);
    }

    private static void banks() {
        Doc.says(0, "BANKS 0 .. 7");
        Doc.says(5, "-1; -2; -4; -6.");
        SwitchSeven x = new SwitchSeven();
        for (int bank = 0; bank <= 7; bank++) {
            Due.is("FEE of " + bank, x.bank(bank, 0, bank + 1), 0);
        }
        for (int bank = 0; bank <= 7; bank++) {
            Due.is("its own FEE, " + bank, x.bank(bank, 0, 0), bank + 1);
        }
        Edge.others("bank", b -> x.bank(b, 0, 0), 8, -1);
    }

    private static void fees() {
        Doc.says(0, "a FEE (0 .. 999; 0 at first)");
        SwitchSeven x = new SwitchSeven();
        Edge.below("FEE", v -> x.bank(3, 0, v), 0, -4);
        Edge.above("FEE", v -> x.bank(3, 0, v), 999, -6);
        Due.is("0 at first", x.bank(3, 0, 999), 0);
        Due.is("999", x.bank(3, 0, 0), 999);
        Due.is("0", x.bank(3, 0, 1), 0);
        Due.is("CAP is another", x.bank(3, 1, 99), 99);
    }

    private static void caps() {
        Doc.says(0, "CAP: steps a night (0 .. 99; 99 at first)");
        SwitchSeven x = new SwitchSeven();
        Edge.below("CAP", v -> x.bank(3, 1, v), 0, -4);
        Edge.above("CAP", v -> x.bank(3, 1, v), 99, -6);
        Due.is("99 at first", x.bank(3, 1, 0), 99);
        Due.is("0", x.bank(3, 1, 99), 0);
        Due.is("99", x.bank(3, 1, 1), 99);
        Due.is("FEE is another", x.bank(3, 0, 0), 0);
    }

    private static void bankOther() {
        Doc.says(5, "FEE (what 0), CAP (1) of a BANK becomes v: what it was.");
        SwitchSeven x = new SwitchSeven();
        Edge.others("what", what -> x.bank(0, what, 0), 2, -2);
        Due.is("what 0", x.bank(0, 0, 5), 0);
        Due.is("what 1", x.bank(0, 1, 6), 99);
        Due.is("FEE was", x.bank(0, 0, 5), 5);
        Due.is("CAP was", x.bank(0, 1, 6), 6);
    }

    private static void bankOrder() {
        Doc.says(5, "-1; -2; -4; -6.");
        SwitchSeven x = new SwitchSeven();
        Due.is("no BANK, no such what, below", x.bank(8, 2, -1), -1);
        Due.is("no BANK, above", x.bank(-1, 0, 1000), -1);
        Due.is("no such what, below", x.bank(0, 2, -1), -2);
        Due.is("no such what, above", x.bank(0, -1, 1000), -2);
    }

    private static void lateNobody() {
        Doc.says(6, "A BANK is LATE on a DAY: how many such were told. -1;");
        SwitchSeven x = new SwitchSeven();
        Edge.others("late", b -> x.late(b, 0), 8, -1);
        Due.is("no BANK, gone by", x.late(8, -1), -1);
        Due.is("no BANK, above", x.late(-1, 1501), -1);
        Due.is("BANK 0", x.late(0, 0), 1);
        Due.is("BANK 7", x.late(7, 0), 2);
    }

    private static void lateTwice() {
        Doc.says(6, "-3 told so");
        SwitchSeven x = new SwitchSeven();
        Due.is("day 0", x.late(2, 0), 1);
        Due.is("day 0 again", x.late(2, 0), -3);
        Due.is("another BANK", x.late(3, 0), 2);
        Due.is("another DAY", x.late(2, 1), 3);
        Due.is("day 1500", x.late(2, 1500), 4);
        Due.is("day 1500 again", x.late(2, 1500), -3);
        x.days(1);
        Due.is("told so, and gone by", x.late(2, 0), -3);
        Edge.fill("late", i -> x.late(5, 10 + i), 56, 5);
        Due.is("told so, and no room", x.late(2, 1), -3);
        Due.is("told so, gone by, and no room", x.late(3, 0), -3);
    }

    private static void lateGoneBy() {
        Doc.says(6, "-4 ahead of now");
        SwitchSeven x = new SwitchSeven();
        Edge.below("late on day 0", day -> x.late(0, day), 0, -4);
        x.days(10);
        Edge.below("late on day 10", day -> x.late(0, day), 10, -4);
        Due.is("now", x.late(0, 10), 1);
        Edge.fill("late", i -> x.late(1, 10 + i), 59, 2);
        Due.is("gone by, and no room", x.late(0, 9), -4);
    }

    private static void lateNoRoom() {
        Doc.says(6, "-6 (above 1500, 60, too)");
        Doc.says(0, "LATE on DAYS (told, now or later; 60 at most)");
        SwitchSeven x = new SwitchSeven();
        Edge.above("late", day -> x.late(0, day), 1500, -6);
        Due.is("day 1500", x.late(0, 1500), 1);
        Edge.fill("late", i -> x.late(0, i), 59, 2);
        Due.is("a 61st of that BANK", x.late(0, 100), -6);
        Due.is("a 61st of another BANK", x.late(1, 100), -6);
        x.days(70);
        Due.is("those gone by keep their room", x.late(1, 100), -6);
    }

    private static void lateNow() {
        Doc.says(0, "LATE on DAYS (told, now or later; 60 at most)");
        SwitchSeven x = Due.withAccounts(1);
        x.ask(0, 1, false);
        x.days(1);
        x.late(0, 1);
        x.late(0, 3);
        x.days(1);
        Due.is("told now: a FAULT this NIGHT", x.moveOf(0, 5), 1);
        x.days(1);
        Due.is("not LATE on day 2", x.moveOf(0, 5), 1);
        x.days(1);
        Due.is("LATE later", x.moveOf(0, 5), 2);
    }
}
