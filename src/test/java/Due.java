/** What the project's tests share: the tally of answers, and texts put on the tape. */
final class Due {
    private static int asked = 0;
    private static int wrong = 0;

    private Due() {
    }

    static void is(String call, long got, long want) {
        asked++;
        if (got != want) {
            wrong++;
            System.out.println(call + " answered " + got + ", due is " + want);
        }
    }

    static void isTrue(String what, boolean holds) {
        is(what, holds ? 1 : 0, 1);
    }

    /** A refusal of a call that answers a long. */
    static long no(int refusal) {
        return 4000000000000000000L - refusal;
    }

    static void feed(SwitchSeven x, String text) {
        for (int at = 0; at < text.length(); at += 8) {
            int n = Math.min(8, text.length() - at);
            long bytes = 0;
            for (int i = 0; i < n; i++) {
                bytes |= (text.charAt(at + i) & 255L) << (8 * i);
            }
            x.feed(n, bytes);
        }
    }

    static int rule(SwitchSeven x, String text, int purpose, int day) {
        feed(x, text);
        return x.rule(purpose, day);
    }

    /** An object with this many accounts, at the banks 0, 1, .. 7, 0, .., of the names 0, 1111, 2222, .. */
    static SwitchSeven withAccounts(int n) {
        SwitchSeven x = new SwitchSeven();
        for (int i = 0; i < n; i++) {
            x.account(i % 8, i * 1111 % 10000, -1);
        }
        return x;
    }

    static void finish() {
        System.out.println(asked + " answers asked for, " + wrong + " not as due");
        if (wrong != 0 || asked == 0) {
            System.exit(1);
        }
    }
}
