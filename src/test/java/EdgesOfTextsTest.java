/** What the document says of bounds in its part II and in promises 15 and 16, each sentence by itself. */
public final class EdgesOfTextsTest {
    private static final String LETTERS = "btsojlnfwd";

    public static void main(String[] args) {
        feedTooFew();
        feedTooMany();
        feedLowestFirst();
        sixtyBytes();
        cutTowardZero();
        byZero();
        fromTheLeft();
        digits();
        comparisons();
        heldAbove();
        heldBelow();
        lettersAreHeld();
        brackets();
        faultAtTheStart();
        faultBehindAUnit();
        faultInABracket();
        faultBehindASign();
        faultAtTheEnd();
        faultOfASixthBracket();
        lettersOfAsk();
        lettersOfSends();
        lettersOfOverdrawn();
        lettersOfGood();
        lettersOfGoodByWhy();
        lettersOfAnotherPurposeBefore();
        notJoint();
        linesNotEnded();
        ruleOther();
        ruleGoneBy();
        ruleNoRoom();
        ruleOrder();
        ruleFaulty();
        ruleRefused();
        inForce();
        thirtyInForce();
        withoutOne();
        Due.finish();
    }

    private static void feedTooFew() {
        Doc.says(15, "n (1 .. 8) bytes come, the lowest first: how many THE TAPE has. -4;");
        SwitchSeven x = new SwitchSeven();
        Edge.below("feed", n -> x.feed(n, 49), 1, -4);
        Due.is("none came", x.count(7), 0);
        Due.is("1", x.feed(1, 49), 1);
        Due.is("8", x.feed(8, 49), 9);
    }

    private static void feedTooMany() {
        Doc.says(15, "-6 (n; above 60)");
        SwitchSeven x = new SwitchSeven();
        Edge.above("feed", n -> x.feed(n, 49), 8, -6);
        Edge.fill("feed", i -> x.feed(8, 0) / 8, 7, 1);
        Due.is("56 and 5", x.feed(5, 0), -6);
        Due.is("none of the 5 came", x.count(7), 56);
        Due.is("56 and 4", x.feed(4, 0), 60);
        for (int n = 1; n <= 8; n++) {
            Due.is("60 and " + n, x.feed(n, 0), -6);
        }
        Edge.below("feed on a full TAPE", n -> x.feed(n, 49), 1, -4);
        Due.is("60", x.count(7), 60);
        SwitchSeven y = new SwitchSeven();
        Due.feed(y, "1".repeat(53));
        Due.is("53 and 8", y.feed(8, 0), -6);
        Due.is("53 and 7", y.feed(7, 0), 60);
    }

    private static void feedLowestFirst() {
        Doc.says(15, "bytes come, the lowest first");
        SwitchSeven x = new SwitchSeven();
        x.feed(2, 0x3178L);
        Due.is("x ahead of 1", x.rule(0, 0), -20);
        x.feed(2, 0x7831L);
        Due.is("1 ahead of x", x.rule(0, 0), -21);
        x.feed(1, 0x7831L);
        Due.is("1 alone", x.rule(0, 0), 1);
        x.feed(8, 0xFF312B312B312B31L);
        Due.is("the eighth is the highest, and 255", x.rule(0, 0), -27);
    }

    private static void sixtyBytes() {
        Doc.says(0, "TEXTS (60 bytes at most)");
        SwitchSeven x = moved();
        Due.is("60 bytes", Due.rule(x, "10" + "+1".repeat(29), 1, 10), 1);
        Due.is("39 behind", x.sends(0, 9 + 39), 1);
        Due.is("40 behind", x.sends(0, 9 + 40), -9);
        Due.is("60 bytes that lack one more", Due.rule(x, "1+".repeat(30), 1, 10), -80);
        Due.is("60 bytes, the last can not stand", Due.rule(x, "1" + "+1".repeat(29) + "x", 1, 10), -79);
        Due.is("none", x.rule(1, 10), -20);
    }

    private static SwitchSeven moved() {
        SwitchSeven x = Due.withAccounts(1);
        x.ask(0, 1, false);
        x.days(10);
        return x;
    }

    /** A TEXT is worth more than 0, as an ask by it tells. */
    private static boolean isAboveZero(String text) {
        SwitchSeven x = Due.withAccounts(1);
        Due.is("rule of " + text, Due.rule(x, text, 0, 0), 1);
        return x.ask(0, 1, false) == 0;
    }

    private static void isWorth(String text, String other) {
        StringBuilder both = new StringBuilder().append('(').append(text).append('=').append(other).append(')');
        Due.isTrue(text + " is " + other, isAboveZero(both.toString()));
    }

    private static void cutTowardZero() {
        Doc.says(0, "cut toward 0;");
        isWorth("7/2", "3");
        isWorth("(0-7)/2", "0-3");
        isWorth("7/(0-2)", "0-3");
        isWorth("(0-7)/(0-2)", "3");
        isWorth("1/2", "0");
        isWorth("(0-1)/2", "0");
        isWorth("(0-1)/99999", "0");
        isWorth("6/2", "3");
    }

    private static void byZero() {
        Doc.says(0, "by 0: 0;");
        isWorth("5/0", "0");
        isWorth("0/0", "0");
        isWorth("(0-5)/0", "0");
        isWorth("7+5/(3-3)", "7");
        isWorth("5/0*9", "0");
        isWorth("9/n", "0");
    }

    private static void fromTheLeft() {
        Doc.says(0, "from the left on)");
        isWorth("16/4/2", "2");
        isWorth("7/2*2", "6");
        isWorth("2*7/4", "3");
        isWorth("9-4-3", "2");
        isWorth("9-4+3", "8");
        isWorth("1+2*3", "7");
        isWorth("9-2*3-1", "2");
    }

    private static void digits() {
        Doc.says(0, "a number of 1 to 5 digits");
        SwitchSeven x = new SwitchSeven();
        String[] numbers = {"0", "9", "10", "999", "1000", "99999", "00000", "00001"};
        for (int i = 0; i < numbers.length; i++) {
            Due.is("rule of " + numbers[i], Due.rule(x, numbers[i], 0, 0), i + 1);
        }
        Due.is("six digits", Due.rule(x, "100000", 0, 0), -25);
        Due.is("six zeros", Due.rule(x, "000000", 0, 0), -25);
        Due.is("six digits behind a sign", Due.rule(x, "1+123456", 0, 0), -27);
        Due.is("six digits in a bracket", Due.rule(x, "(123456)", 0, 0), -26);
        Due.is("no digit", Due.rule(x, "1+", 0, 0), -22);
        isWorth("99999+1", "10000*10");
        isWorth("00012", "12");
    }

    private static void comparisons() {
        Doc.says(0, "1 if so, else 0.");
        String[] signs = {"<", "=", ">"};
        for (int sign = 0; sign < 3; sign++) {
            for (int a = 4; a <= 6; a++) {
                String text = "(" + a + signs[sign] + "5)";
                isWorth(text, a - 5 == sign - 1 ? "1" : "0");
            }
        }
        isWorth("(0-1<0)", "1");
        isWorth("(0-1>0)", "0");
    }

    private static void heldAbove() {
        Doc.says(0, "Held within -1000000000 .. 1000000000 after each step.");
        isWorth("99999*99999", "10000*50000*2");
        isWorth("10000*50000*2-1", "99999*10000+9999");
        isWorth("99999*10000+9999+1", "99999*99999");
        isWorth("99999*10000+9999+2", "99999*99999");
        isWorth("99999*99999+1-1", "99999*10000+9999");
        isWorth("99999*99999/99999", "10000");
        isWorth("99999*99999*99999*99999*99999/10000", "99999+1");
    }

    private static void heldBelow() {
        Doc.says(0, "Held within -1000000000 .. 1000000000 after each step.");
        isWorth("0-99999*99999", "0-10000*50000*2");
        isWorth("0-99999*10000-9999-1", "0-99999*99999");
        isWorth("0-99999*10000-9999-2", "0-99999*99999");
        isWorth("0-99999*99999-1+1", "0-99999*10000-9999");
        isWorth("(0-99999)*99999", "0-10000*50000*2");
        isWorth("(0-99999)*99999*(0-99999)", "10000*50000*2");
    }

    private static void lettersAreHeld() {
        Doc.says(0, "Held within -1000000000 .. 1000000000 after each step.");
        SwitchSeven x = givenGood("99999*99999", 2);
        Due.is("SUM", x.sum(0), 2000000000L);
        Due.rule(x, "(s=99999*99999)", 0, x.count(0));
        Due.is("s is held", x.ask(0, 4, false), 1);
    }

    /** Account 0, whose MOVE had a FAULT of bank 3, is given GOOD's worth so many times. */
    private static SwitchSeven givenGood(String text, int times) {
        SwitchSeven x = Due.withAccounts(2);
        x.close(1);
        x.late(3, 1);
        x.ask(0, 3, false);
        x.days(2);
        Due.rule(x, text, 3, 2);
        x.line(1, 0, 1, 7, 2, 1);
        x.days(times);
        x.end(0);
        x.takeBack(0);
        return x;
    }

    private static void brackets() {
        Doc.says(0, "Brackets are 5 deep at most.");
        SwitchSeven x = new SwitchSeven();
        Due.is("5 deep", Due.rule(x, "(((((1)))))", 0, 0), 1);
        Due.is("6 deep", Due.rule(x, "((((((1))))))", 0, 0), -25);
        Due.is("5 deep twice", Due.rule(x, "(((((1)))))*(((((1)))))", 0, 0), 2);
        Due.is("six side by side", Due.rule(x, "(1)+(1)+(1)+(1)+(1)+(1)", 0, 0), 3);
        Due.is("5 deep behind a sign of a pair", Due.rule(x, "(1<(1<(1<(1<(1<2)))))", 0, 0), 4);
        Due.is("6 deep behind a sign of a pair", Due.rule(x, "(1<(1<(1<(1<(1<(2))))))", 0, 0), -35);
        Due.is("deep, out, and deep again", Due.rule(x, "((((1)+(2))+((3))))", 0, 0), 5);
    }

    /** The place of the FAULT of a text, or -1. */
    private static int faultOf(String text) {
        SwitchSeven x = new SwitchSeven();
        int answer = Due.rule(x, text, 0, 0);
        Due.is("a RULE or none", x.count(6), answer == 1 ? 1 : 0);
        return answer == 1 ? -1 : -20 - answer;
    }

    private static boolean isDigit(int b) {
        return b >= '0' && b <= '9';
    }

    private static boolean isOneOf(int b, String signs) {
        return signs.indexOf((char) b) >= 0;
    }

    private static void faultAtTheStart() {
        Doc.says(0, "FAULT: the place of the first byte that can not stand (the end, if something lacks;");
        Doc.says(0, "LETTERS (no others can stand)");
        for (int b = 0; b < 256; b++) {
            int want = isDigit(b) || isOneOf(b, LETTERS) ? -1 : b == '(' ? 1 : 0;
            Due.is("byte " + b + " alone", faultOf(String.valueOf((char) b)), want);
        }
    }

    private static void faultBehindAUnit() {
        Doc.says(0, "FAULT: the place of the first byte that can not stand (the end, if something lacks;");
        for (int b = 0; b < 256; b++) {
            int sign = isOneOf(b, "+-*/") ? 1 : 0;
            Due.is("byte " + b + " behind 1", faultOf("1" + (char) b), isDigit(b) ? -1 : 1 + sign);
            Due.is("byte " + b + " behind b", faultOf("b" + (char) b), 1 + sign);
            Due.is("byte " + b + " behind (1)", faultOf("(1)" + (char) b), 3 + sign);
            Due.is("byte " + b + " behind 12345", faultOf("12345" + (char) b), 5 + sign);
        }
    }

    private static void faultInABracket() {
        Doc.says(0, "FAULT: the place of the first byte that can not stand (the end, if something lacks;");
        for (int b = 0; b < 256; b++) {
            int first = isDigit(b) || isOneOf(b, LETTERS) || b == '(' ? 2 : 1;
            Due.is("byte " + b + " behind (", faultOf("(" + (char) b), first);
            int once = b == ')' ? -1 : isDigit(b) || isOneOf(b, "+-*/<=>") ? 3 : 2;
            Due.is("byte " + b + " behind (1", faultOf("(1" + (char) b), once);
            int twice = b == ')' ? -1 : isDigit(b) || isOneOf(b, "+-*/") ? 5 : 4;
            Due.is("byte " + b + " behind (1<2", faultOf("(1<2" + (char) b), twice);
        }
    }

    private static void faultBehindASign() {
        Doc.says(0, "FAULT: the place of the first byte that can not stand (the end, if something lacks;");
        String[] ahead = {"1+", "1-", "1*", "1/", "(1<", "(1=", "(1>"};
        for (String text : ahead) {
            int at = text.length();
            boolean open = text.charAt(0) == '(';
            for (int b = 0; b < 256; b++) {
                boolean stands = isDigit(b) || isOneOf(b, LETTERS);
                int want = stands && !open ? -1 : stands || b == '(' ? at + 1 : at;
                Due.is("byte " + b + " behind " + text, faultOf(text + (char) b), want);
            }
        }
    }

    private static void faultAtTheEnd() {
        Doc.says(0, "(the end, if something lacks;");
        String[] texts = {"", "1+", "b*", "(", "(((((", "(1", "(1<", "(1<2", "(1+", "((1)", "1+(2-(3"};
        for (String text : texts) {
            Due.is("end of " + text, faultOf(text), text.length());
        }
        Due.is("a byte that can not stand is ahead of what lacks", faultOf("(1+)"), 3);
        Due.is("the first of two", faultOf("(x)y"), 1);
    }

    private static void faultOfASixthBracket() {
        Doc.says(0, "of a sixth bracket its own)");
        Due.is("the sixth, and more", faultOf("(((((((1"), 5);
        Due.is("the sixth, and nothing more", faultOf("(((((("), 5);
        Due.is("the sixth, and what can not stand", faultOf("((((((x"), 5);
        Due.is("ahead of it what can not stand", faultOf("((x((("), 2);
        Due.is("behind brackets that are shut", faultOf("(1)+(((((("), 9);
        Due.is("in the midst", faultOf("(1+(2+(3+(4+(5+(6"), 15);
    }

    /** An ask of account 0 by a RULE; its MOVE would go to bank 5. */
    private static boolean asksBy(String text) {
        SwitchSeven x = new SwitchSeven();
        x.account(3, 10, 0);
        x.account(4, 11, -1);
        x.put(0, 500);
        x.over(0, 60);
        x.bank(3, 0, 77);
        x.line(1, 0, 1, 5, 1, 1);
        x.days(2);
        Due.is("rule of " + text, Due.rule(x, text, 0, 2), 1);
        return x.ask(0, 5, false) == 0;
    }

    private static void lettersOfAsk() {
        Doc.says(0, "Those that a PURPOSE has not are 0.");
        Doc.says(0, "0 ASK (b t s o j l; as it is asked)");
        String[] hold = {"(b=3)", "(t=5)", "(s=495)", "(o=60)", "(j=1)", "(l=1)", "(n=0)", "(f=0)", "(w=0)", "(d=0)", "1"};
        for (String text : hold) {
            Due.isTrue("ASK: " + text, asksBy(text));
        }
        Due.isTrue("worth 0", !asksBy("0"));
        Due.isTrue("worth below 0", !asksBy("0-1"));
    }

    private static void lettersOfSends() {
        Doc.says(0, "Those that a PURPOSE has not are 0.");
        Doc.says(0, "1 SENDS (b: the BANK of the MOVED ACCOUNT, t: of that to which it MOVED, d)");
        SwitchSeven x = new SwitchSeven();
        x.account(3, 10, 0);
        x.put(0, 500);
        x.over(0, 60);
        x.bank(3, 0, 77);
        x.bank(5, 0, 78);
        x.ask(0, 5, false);
        x.agree(0);
        x.days(10);
        String[] hold = {"(b=3)", "(t=5)", "(s=0)", "(o=0)", "(j=0)", "(l=0)", "(n=0)", "(f=0)", "(w=0)", "(d=11)"};
        for (String text : hold) {
            Due.rule(x, text + "*99", 1, 10);
            Due.is("SENDS: " + text, x.sends(0, 20), 1);
        }
        Due.rule(x, "99*(d=0-9)-10", 1, 10);
        Due.is("the RULE is in force from day 10 on alone", x.sends(0, 0), 1);
    }

    /** Account 0 of bank 4, overdrawn by 60, is asked to go to bank 6 on day 1; step 5 comes on day 8. */
    private static int overdrawnBy(String text) {
        SwitchSeven x = new SwitchSeven();
        x.account(4, 1, 2);
        x.account(5, 3, -1);
        x.over(0, 100);
        x.bank(4, 0, 7);
        x.line(0, 0, 1, 60, 0, 0);
        x.days(1);
        x.ask(0, 6, false);
        x.agree(0);
        Due.is("rule of " + text, Due.rule(x, text, 2, 1), 1);
        x.days(8);
        return x.moveOf(0, 4);
    }

    private static void lettersOfOverdrawn() {
        Doc.says(0, "Those that a PURPOSE has not are 0.");
        Doc.says(0, "2 OVERDRAWN (b t s o j l d; at step 5)");
        String[] hold = {"(b=4)", "(t=6)", "(s=0-60)", "(o=100)", "(j=1)", "(l=1)", "(n=0)", "(f=0)", "(w=0)", "(d=7)"};
        for (String text : hold) {
            Due.is("OVERDRAWN: " + text, overdrawnBy(text), 2);
        }
        Due.is("worth 0", overdrawnBy("0"), 0);
        Due.is("worth below 0", overdrawnBy("0-1"), 0);
    }

    private static void lettersOfGood() {
        Doc.says(0, "Those that a PURPOSE has not are 0.");
        Doc.says(0, "3 GOOD (b: the BANK of the ACCOUNT, n, f of that BANK, w)");
        String[] hold = {"(b=0)", "(t=0)", "(s=0)", "(o=0)", "(j=0)", "(l=0)", "(n=7)", "(f=0)", "(w=2)", "(d=0)"};
        for (String text : hold) {
            Due.is("GOOD: " + text, givenGood(text, 1).accountOf(0, 6), 1);
        }
        SwitchSeven x = Due.withAccounts(4);
        x.bank(2, 0, 30);
        x.bank(5, 0, 50);
        x.over(2, 9);
        x.late(5, 1);
        x.ask(2, 5, false);
        x.days(2);
        Due.rule(x, "b*1000+n*100+f+w", 3, 2);
        x.line(0, 2, 3, 11, 2, 0);
        x.line(0, 4, 3, 12, 2, 0);
        x.days(1);
        Due.is("of the old one", x.accountOf(2, 6), 2000 + 1100 + 30 + 1);
        Due.is("of the new one", x.accountOf(4, 6), 5000 + 1200 + 50 + 1);
    }

    private static void lettersOfGoodByWhy() {
        Doc.says(0, "3 GOOD (b: the BANK of the ACCOUNT, n, f of that BANK, w)");
        SwitchSeven x = Due.withAccounts(3);
        x.close(2);
        x.late(3, 1);
        x.ask(0, 3, false);
        x.days(11);
        Due.rule(x, "w", 3, 11);
        x.line(1, 0, 1, 5, 11, 90);
        x.line(1, 0, 2, 5, 14, 90);
        x.line(2, 0, 1, 5, 15, 90);
        x.line(1, 0, 3, 5, 16, 90);
        Due.rule(x, "0", 1, 15);
        Due.rule(x, "99", 1, 16);
        x.days(1);
        Due.is("w is 1", x.accountOf(3, 6), 1);
        x.days(3);
        Due.is("w is 2", x.accountOf(3, 6), 3);
        x.days(1);
        Due.is("w is 3, of the one told", x.accountOf(0, 6), 3);
        x.days(1);
        Due.is("w is 4", x.accountOf(3, 6), 7);
        Due.is("OWED in all", x.owes(3), 10);
    }

    private static void lettersOfAnotherPurposeBefore() {
        Doc.says(0, "Those that a PURPOSE has not are 0.");
        SwitchSeven x = givenGood("n*n+w", 1);
        x.put(0, 20);
        x.over(0, 30);
        Due.rule(x, "(n+f+w+d=0)*(s>0)*(o>0)", 0, x.count(0));
        Due.is("ASK behind GOOD", x.ask(0, 4, false), 1);
        x.days(12);
        Due.rule(x, "(s+o+j+l+n+f+w=0)*999", 1, x.count(0));
        Due.is("SENDS behind ASK", x.sends(0, x.count(0)), 3);
        x.put(3, 8);
        Due.rule(x, "(d+n+f+w=0)*(s>0)", 0, x.count(0));
        Due.is("ASK behind SENDS", x.ask(3, 5, false), 2);
    }

    private static void notJoint() {
        Doc.says(0, "j 1 if it is JOINT");
        String[] texts = {"(j=1)", "(j=0)"};
        for (int i = 0; i < 2; i++) {
            for (int joint = -1; joint <= 0; joint++) {
                SwitchSeven x = new SwitchSeven();
                x.account(0, 5, joint);
                Due.rule(x, texts[i], 0, 0);
                Due.is(texts[i] + ", JOINT with " + joint, x.ask(0, 1, false), joint + i == 0 ? 0 : -3);
            }
        }
    }

    private static void linesNotEnded() {
        Doc.says(0, "l LINES (not ENDED) from it");
        SwitchSeven x = Due.withAccounts(2);
        x.line(0, 0, 1, 1, 0, 0);
        x.line(2, 0, 1, 1, 5, 1);
        x.line(1, 0, 1, 1, 5, 1);
        x.line(1, 1, 0, 1, 5, 1);
        x.end(2);
        x.days(1);
        Due.rule(x, "(l=2)", 0, 1);
        Due.is("a PAYMENT that was due is not ENDED, one is, one is from another", x.ask(0, 1, false), 0);
        x.takeBack(0);
        x.end(0);
        x.end(1);
        Due.is("none", x.ask(0, 1, false), -3);
        Due.rule(x, "(l=0)", 0, 1);
        Due.is("0", x.ask(0, 1, false), 1);
    }

    private static void ruleOther() {
        Doc.says(16, "-2;");
        SwitchSeven x = new SwitchSeven();
        Due.feed(x, "1");
        Edge.others("rule for", purpose -> x.rule(purpose, 0), 4, -2);
        Due.is("purpose 0", x.rule(0, 0), 1);
        Due.is("purpose 3", Due.rule(x, "1", 3, 0), 2);
    }

    private static void ruleGoneBy() {
        Doc.says(16, "-4 a DAY ahead of now");
        SwitchSeven x = new SwitchSeven();
        Due.feed(x, "1");
        Edge.below("rule on day 0", day -> x.rule(0, day), 0, -4);
        x.days(3);
        Edge.below("rule on day 3", day -> x.rule(0, day), 3, -4);
        Due.is("now", x.rule(0, 3), 1);
    }

    private static void ruleNoRoom() {
        Doc.says(16, "-6 (above 1500, 30, too)");
        Doc.says(0, "RULES (30 at most): a TEXT for a PURPOSE from a DAY on (now or later)");
        SwitchSeven x = new SwitchSeven();
        Due.feed(x, "1");
        Edge.above("rule", day -> x.rule(0, day), 1500, -6);
        Due.is("day 1500", x.rule(0, 1500), 1);
        Due.is("one with a FAULT takes no room", Due.rule(x, "x", 0, 0), -20);
        Edge.fill("rule", i -> Due.rule(x, "1", i % 4, 0), 29, 2);
        Due.feed(x, "1");
        for (int purpose = 0; purpose < 4; purpose++) {
            Due.is("a 31st for " + purpose, x.rule(purpose, 0), -6);
        }
        Due.is("30", x.count(6), 30);
    }

    private static void ruleOrder() {
        Doc.says(16, "-2; -4 a DAY ahead of now; -6 (above 1500, 30, too).");
        SwitchSeven x = new SwitchSeven();
        Due.is("no such purpose, gone by", x.rule(4, -1), -2);
        Due.is("no such purpose, above", x.rule(-1, 1501), -2);
        Edge.fill("rule", i -> Due.rule(x, "1", 0, 0), 30, 1);
        Due.is("no such purpose, no room", x.rule(4, 0), -2);
        Due.is("gone by, no room", x.rule(0, -1), -4);
        Due.is("no room, and an empty TAPE", x.rule(0, 0), -6);
    }

    private static void ruleFaulty() {
        Doc.says(16, "or, if it has a FAULT, -20 less its place (nothing is counted; THE TAPE has none, too)");
        SwitchSeven x = new SwitchSeven();
        Due.is("an empty one", x.rule(0, 0), -20);
        Due.is("place 3", Due.rule(x, "1+1x", 0, 0), -23);
        Due.is("THE TAPE has none", x.count(7), 0);
        Due.is("no RULE", x.count(6), 0);
        for (int what = 11; what <= 16; what++) {
            Due.is("nothing is counted, " + what, x.count(what), 0);
        }
        Due.is("the next is read from its own start", Due.rule(x, "1", 0, 0), 1);
    }

    private static void ruleRefused() {
        Doc.says(16, "(Refused: THE TAPE stays.)");
        SwitchSeven x = Due.withAccounts(1);
        Due.feed(x, "0+0");
        Due.is("no such purpose", x.rule(4, 0), -2);
        Due.is("gone by", x.rule(0, -1), -4);
        Due.is("above", x.rule(0, 1501), -6);
        Due.is("it has as many", x.count(7), 3);
        Due.is("and the same", x.rule(0, 0), 1);
        Due.is("it has none", x.count(7), 0);
        Due.is("worth 0", x.ask(0, 1, false), -3);
    }

    private static void inForce() {
        Doc.says(0, "In force on a DAY: the latest DAY not behind it, of several the one told last.");
        SwitchSeven x = moved();
        Due.rule(x, "0", 1, 20);
        Due.is("the day ahead of its first", x.sends(0, 19), 1);
        Due.is("its first day", x.sends(0, 20), -9);
        Due.rule(x, "99", 1, 15);
        Due.is("told last, but of an earlier day", x.sends(0, 20), -9);
        Due.rule(x, "99", 1, 20);
        Due.is("of the same day the one told last", x.sends(0, 20), 1);
        Due.rule(x, "0", 1, 1500);
        Due.is("1499", x.sends(0, 108), 1);
        Due.is("1500", x.sends(0, 1500), -9);
        Due.rule(x, "0", 0, 12);
        Due.is("another PURPOSE's", x.sends(0, 12), 1);
    }

    private static void thirtyInForce() {
        Doc.says(0, "RULES (30 at most): a TEXT for a PURPOSE from a DAY on (now or later)");
        SwitchSeven x = moved();
        for (int i = 0; i < 30; i++) {
            Due.is("RULE " + i, Due.rule(x, "1+2*3+(" + i + "-7)*1*1", 1, 10 + 2 * i), i + 1);
        }
        for (int i = 0; i < 30; i++) {
            int behind = 1 + 2 * i;
            Due.is("in force on day " + (10 + 2 * i), x.sends(0, 10 + 2 * i), behind <= i ? 1 : -9);
        }
        SwitchSeven y = moved();
        for (int i = 0; i < 30; i++) {
            int worth = i % 2 == 0 ? 1 + 2 * i : 2 * i;
            Due.rule(y, "1*1*(2-1)*(3-2)*" + worth + "+0+0", 1, 10 + 2 * i);
        }
        for (int i = 0; i < 30; i++) {
            Due.is("by its worth on day " + (10 + 2 * i), y.sends(0, 10 + 2 * i), i % 2 == 0 ? 1 : -9);
        }
    }

    private static void withoutOne() {
        Doc.says(0, "Without one: ASK 1, SENDS 1095, OVERDRAWN 1, GOOD f.");
        SwitchSeven x = Due.withAccounts(2);
        x.bank(0, 0, 44);
        x.over(0, 5);
        x.late(1, 1);
        Due.is("ASK", x.ask(0, 1, false), 0);
        x.line(0, 0, 1, 5, 0, 0);
        x.line(0, 0, 1, 1, 1, 0);
        x.days(2);
        Due.is("GOOD", x.accountOf(0, 6), 44);
        x.days(7);
        Due.is("OVERDRAWN", x.moveOf(0, 4), 2);
        SwitchSeven y = moved();
        Due.is("SENDS", y.sends(0, 9 + 1095), 1);
        Due.is("SENDS, one more", y.sends(0, 9 + 1096), -9);
    }
}
