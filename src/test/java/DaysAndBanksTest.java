/** Promises 1 to 6. */
public final class DaysAndBanksTest {
    public static void main(String[] args) {
        newObject();
        days();
        holidays();
        working();
        banks();
        late();
        Due.finish();
    }

    private static void newObject() {
        SwitchSeven x = new SwitchSeven();
        for (int what = 0; what <= 16; what++) {
            Due.is("count(" + what + ") of a new object", x.count(what), 0);
        }
        for (int bank = 0; bank < 8; bank++) {
            Due.is("owes of a new object", x.owes(bank), 0);
            Due.is("net of a new object", x.net(bank), 0);
            Due.is("FEE of a new object", x.bank(bank, 0, 0), 0);
            Due.is("CAP of a new object", x.bank(bank, 1, 99), 99);
        }
        Due.is("no account in a new object", x.sum(0), Due.no(-1));
        Due.is("no line in a new object", x.lineOf(0, 0), -1);
        Due.is("no move in a new object", x.moveOf(0, 0), -1);
        SwitchSeven other = new SwitchSeven();
        other.account(0, 1, -1);
        Due.is("objects share nothing", x.count(1), 0);
    }

    private static void days() {
        SwitchSeven x = new SwitchSeven();
        Due.is("days(0)", x.days(0), -4);
        Due.is("days(least int)", x.days(Integer.MIN_VALUE), -4);
        Due.is("days(1501)", x.days(1501), -6);
        Due.is("days(greatest int)", x.days(Integer.MAX_VALUE), -6);
        Due.is("days(1)", x.days(1), 1);
        Due.is("days(1500) from day 1", x.days(1500), -6);
        Due.is("days(greatest int) from day 1", x.days(Integer.MAX_VALUE), -6);
        Due.is("a refused one passes no day", x.count(0), 1);
        Due.is("days(1499) from day 1", x.days(1499), 1500);
        Due.is("days(1) from day 1500", x.days(1), -6);
        Due.is("nights of 1500 days", x.count(10), 1072);
        Due.is("whole from day 0", new SwitchSeven().days(1500), 1500);
    }

    private static void holidays() {
        SwitchSeven x = new SwitchSeven();
        x.days(3);
        Due.is("holiday yesterday", x.holiday(2), -4);
        Due.is("holiday below 0", x.holiday(-1), -4);
        Due.is("holiday today", x.holiday(3), 1);
        Due.is("the same again", x.holiday(3), -3);
        Due.is("a Saturday can be one", x.holiday(5), 2);
        Due.is("day 1501", x.holiday(1501), -6);
        Due.is("day 1500", x.holiday(1500), 3);
        for (int i = 4; i <= 20; i++) {
            Due.is("holiday " + i, x.holiday(100 + i), i);
        }
        Due.is("a 21st", x.holiday(300), -6);
        Due.is("a 21st that is one: ROOM is told first", x.holiday(104), -6);
        Due.is("one gone by is below, though all room is gone", x.holiday(0), -4);
        x.days(1);
        Due.is("the night of a holiday is not gone through", x.count(10), 3);
    }

    private static void working() {
        SwitchSeven y = new SwitchSeven();
        Due.is("day 0 may be a holiday", y.holiday(0), 1);
        Due.is("told so", y.holiday(0), -3);
        Due.is("day 0 is not WORKING then", y.isWorking(0), 0);
        y.days(1);
        Due.is("its NIGHT is not gone through", y.count(10), 0);
        SwitchSeven x = new SwitchSeven();
        Due.is("below 0", x.isWorking(-1), -4);
        Due.is("above 1500", x.isWorking(1501), -6);
        for (int day = 0; day < 14; day++) {
            Due.is("isWorking(" + day + ")", x.isWorking(day), day % 7 < 5 ? 1 : 0);
        }
        Due.is("day 1500 is a Wednesday", x.isWorking(1500), 1);
        x.holiday(1500);
        Due.is("no more", x.isWorking(1500), 0);
        x.days(10);
        Due.is("days gone by are answered too", x.isWorking(9), 1);
        Due.is("Sunday gone by", x.isWorking(6), 0);
    }

    private static void banks() {
        SwitchSeven x = new SwitchSeven();
        Due.is("bank -1", x.bank(-1, 9, -1), -1);
        Due.is("bank 8", x.bank(8, 0, 0), -1);
        Due.is("what -1", x.bank(0, -1, -1), -2);
        Due.is("what 2", x.bank(0, 2, 5000), -2);
        Due.is("FEE below", x.bank(0, 0, -1), -4);
        Due.is("CAP below", x.bank(0, 1, -1), -4);
        Due.is("FEE above", x.bank(0, 0, 1000), -6);
        Due.is("CAP above", x.bank(0, 1, 100), -6);
        Due.is("FEE 999", x.bank(7, 0, 999), 0);
        Due.is("FEE was 999", x.bank(7, 0, 0), 999);
        Due.is("FEE was 0", x.bank(7, 0, 3), 0);
        Due.is("CAP 0", x.bank(7, 1, 0), 99);
        Due.is("CAP was 0", x.bank(7, 1, 99), 0);
        Due.is("another bank's is its own", x.bank(6, 0, 1), 0);
    }

    private static void late() {
        SwitchSeven x = new SwitchSeven();
        Due.is("bank 8", x.late(8, -1), -1);
        Due.is("bank -1", x.late(-1, 0), -1);
        Due.is("today", x.late(7, 0), 1);
        Due.is("told so", x.late(7, 0), -3);
        Due.is("another bank, same day", x.late(6, 0), 2);
        Due.is("below", x.late(0, -1), -4);
        Due.is("above", x.late(0, 1501), -6);
        Due.is("far above", x.late(0, Integer.MAX_VALUE), -6);
        Due.is("day 1500", x.late(0, 1500), 3);
        x.days(1);
        Due.is("gone by, told so: STATE is told first", x.late(7, 0), -3);
        Due.is("gone by, not told", x.late(5, 0), -4);
        for (int i = 4; i <= 60; i++) {
            Due.is("late " + i, x.late(i % 8, 100 + i), i);
        }
        Due.is("a 61st", x.late(0, 500), -6);
        Due.is("a 61st that was told", x.late(0, 1500), -3);
    }
}
