/** Promises 25 to 34. */
public final class NamesNetsAndSurgesTest {
    public static void main(String[] args) {
        likes();
        rivals();
        nets();
        checks();
        surges();
        leastByTrying();
        counts();
        Due.finish();
    }

    private static void likes() {
        SwitchSeven x = new SwitchSeven();
        x.account(0, 1234, 7);
        x.account(0, 0, -1);
        Due.is("no account", x.like(2, -1), -1);
        Due.is("below", x.like(0, -1), -4);
        Due.is("above", x.like(0, 10000), -6);
        Due.is("the same", x.like(0, 1234), 2);
        Due.is("the other's", x.like(0, 7), 2);
        int[] one = {1235, 1204, 1934, 234, 9234, 17, 107, 9007, 0};
        for (int name : one) {
            Due.is("but for one digit, " + name, x.like(0, name), 1);
        }
        int[] none = {1243, 2134, 18, 9999, 77 * 100, 1299};
        for (int name : none) {
            Due.is("not like, " + name, x.like(0, name), 0);
        }
        Due.is("none is no NAME: 0 is like 0", x.like(1, 0), 2);
        Due.is("9999 is not like -1", x.like(1, 9999), 0);
        Due.is("1 is like 0", x.like(1, 1), 1);
    }

    private static void rivals() {
        SwitchSeven x = new SwitchSeven();
        Due.is("no bank", x.rivals(8, -1), -1);
        Due.is("below", x.rivals(0, -1), -4);
        Due.is("above", x.rivals(0, 10000), -6);
        Due.is("rival: no bank", x.rival(8, -1, 0), -1);
        Due.is("rival: below", x.rival(0, -1, 0), -4);
        Due.is("rival: above", x.rival(0, 10000, 0), -6);
        Due.is("none", x.rivals(0, 5), 0);
        Due.is("name 0", x.rivals(0, 0), 0);
        Due.is("name 9999", x.rivals(0, 9999), 0);
        Due.is("rival: name 0", x.rival(0, 0, 0), -9);
        Due.is("rival: name 9999", x.rival(0, 9999, 0), -9);
        x.account(0, 1111, -1);
        x.account(1, 1112, -1);
        x.account(0, 1113, 1114);
        x.account(0, 1112, -1);
        x.account(0, 5555, 1112);
        x.account(0, 9999, -1);
        Due.is("LIKE most: 2", x.rivals(0, 1112), 2);
        Due.is("the first", x.rival(0, 1112, 0), 3);
        Due.is("the second", x.rival(0, 1112, 1), 4);
        Due.is("no third", x.rival(0, 1112, 2), -9);
        Due.is("i below 0", x.rival(0, 1112, -1), -9);
        Due.is("LIKE most: 1", x.rivals(0, 1119), 4);
        Due.is("the last of them", x.rival(0, 1119, 3), 4);
        Due.is("0 is not enough", x.rivals(0, 7777), 0);
        Due.is("no first", x.rival(0, 7777, 0), -9);
        x.close(3);
        Due.is("a CLOSED one is none", x.rivals(0, 1112), 1);
        Due.is("the first then", x.rival(0, 1112, 0), 4);
        x.ask(4, 1, false);
        x.agree(0);
        Due.is("the new one counts at once", x.rivals(1, 1112), 2);
        x.days(10);
        Due.is("a MOVED one is none", x.rivals(0, 1112), 2);
        Due.is("LIKE 1 then", x.rival(0, 1112, 0), 0);
    }

    private static SwitchSeven afterOneNight() {
        SwitchSeven x = Due.withAccounts(3);
        x.account(0, 5, -1);
        x.put(0, 1000);
        x.line(1, 0, 1, 100, 4, 5);
        x.line(1, 0, 2, 30, 4, 5);
        x.line(1, 1, 0, 7, 4, 5);
        x.line(1, 0, 3, 500, 4, 5);
        x.days(5);
        return x;
    }

    private static void nets() {
        SwitchSeven x = afterOneNight();
        Due.is("no bank", x.net(8), Due.no(-1));
        Due.is("bank -1", x.net(-1), Due.no(-1));
        Due.is("NET of 0", x.net(0), -123);
        Due.is("NET of 1", x.net(1), 93);
        Due.is("NET of 2", x.net(2), 30);
        Due.is("NET of 3", x.net(3), 0);
        x.days(2);
        Due.is("a weekend leaves it", x.net(0), -123);
        x.put(0, 1);
        Due.is("put is in none", x.net(0), -123);
        x.days(1);
        Due.is("a NIGHT of nothing", x.net(0), 0);
    }

    private static void tellAll(SwitchSeven x, long... row) {
        for (int i = 0; i < row.length; i++) {
            Due.is("tell " + i, x.tell(row[i]), i + 1);
        }
    }

    private static void checks() {
        SwitchSeven x = afterOneNight();
        Due.is("an empty row", x.check(), -3);
        tellAll(x, -123, 93, 30, 0, 0, 0, 0);
        Due.is("seven", x.check(), -3);
        Due.is("it stays", x.count(8), 7);
        Due.is("the eighth", x.tell(0), 8);
        Due.is("a ninth", x.tell(0), -6);
        Due.is("all agree", x.check(), -9);
        Due.is("it has none then", x.count(8), 0);
        tellAll(x, -123, 93, 30, 0, 0, 0, 0, 1);
        Due.is("the last", x.check(), 7);
        tellAll(x, Long.MIN_VALUE, 93, 31, 0, 0, 0, 0, 1);
        Due.is("the first", x.check(), 0);
        tellAll(x, -123, 93 + (1L << 32), 30, 0, 0, 0, 0, 0);
        Due.is("longs, whole", x.check(), 1);
    }

    private static void surges() {
        SwitchSeven x = new SwitchSeven();
        Due.is("below", x.surge(-1), -4);
        Due.is("above", x.surge(128), -6);
        Due.is("none: LEAST", x.least(), 0);
        for (int i = 1; i <= 9; i++) {
            Due.is("day " + i, x.surge(i == 9 ? 127 : 0), i);
        }
        Due.is("a tenth", x.surge(0), -6);
        Due.is("a tenth below", x.surge(-1), -4);
        Due.is("127 in three days", x.least(), 43);
        Due.is("least leaves it", x.count(9), 9);
        Due.is("cap below", x.tooLate(-1), -4);
        Due.is("cap above", x.tooLate(1000), -6);
        Due.is("it stays", x.count(9), 9);
        Due.is("42 a day are too few: day 10", x.tooLate(42), 10);
        Due.is("it has none then", x.count(9), 0);
        x.surge(127);
        Due.is("43 are enough", x.tooLate(43), -9);
        Due.is("none", x.tooLate(999), -9);
        for (int i = 0; i < 9; i++) {
            x.surge(127);
        }
        Due.is("nine days of 127 in eleven", x.least(), 104);
        Due.is("103 a day", x.tooLate(103), 10);
        x.surge(3);
        Due.is("a new SURGE has nothing of the old one", x.least(), 1);
        Due.is("nor its days", x.tooLate(1), -9);
        x.surge(0);
        x.surge(5);
        x.surge(0);
        Due.is("0 a day: two days behind it", x.tooLate(0), 3);
    }

    /** LEAST is the least number a day of which tooLate tells none. */
    private static void leastByTrying() {
        int seed = 12345;
        for (int run = 0; run < 25; run++) {
            SwitchSeven x = new SwitchSeven();
            int n = 1 + run % 9;
            int[] bytes = new int[n];
            for (int i = 0; i < n; i++) {
                seed = seed * 1103515245 + 12345;
                bytes[i] = (seed >>> 16) % 128;
                x.surge(bytes[i]);
            }
            int least = x.least();
            int bound = 0;
            for (int i = 0; i < n; i++) {
                int all = 0;
                for (int j = i; j < n; j++) {
                    all += bytes[j];
                    bound = Math.max(bound, (all + j - i + 2) / (j - i + 3));
                }
            }
            Due.is("least of run " + run, least, bound);
            Due.is("enough", x.tooLate(least), -9);
            for (int b : bytes) {
                x.surge(b);
            }
            Due.isTrue("one less is too few", least == 0 || x.tooLate(least - 1) >= 2);
        }
    }

    private static void counts() {
        SwitchSeven x = Due.withAccounts(3);
        x.days(8);
        x.close(2);
        x.line(1, 0, 1, 1, 8, 1);
        x.line(1, 0, 1, 1, 8, 1);
        x.line(1, 0, 1, 1, 8, 1);
        x.end(0);
        x.ask(0, 3, false);
        x.ask(1, 3, false);
        x.takeBack(0);
        Due.rule(x, "1", 0, 8);
        Due.feed(x, "12345");
        x.tell(1);
        x.tell(1);
        x.surge(1);
        x.sum(99);
        x.put(99, 1);
        x.bank(0, 5, 0);
        x.end(0);
        x.end(0);
        x.end(0);
        x.days(0);
        x.days(-1);
        x.days(-1);
        x.days(-1);
        x.was(0, 8);
        long[] want = {8, 5, 3, 2, 2, 1, 1, 5, 2, 1, 6, 2, 1, 3, 4, 0, 1};
        for (int what = 0; what < want.length; what++) {
            Due.is("count(" + what + ")", x.count(what), want[what]);
        }
        Due.is("count(17)", x.count(17), -9);
        Due.is("count(-1)", x.count(-1), -9);
        Due.is("count(least int)", x.count(Integer.MIN_VALUE), -9);
        Due.is("count(greatest int)", x.count(Integer.MAX_VALUE), -9);
        Due.is("another what is no refusal", x.count(12), 1);
    }
}
