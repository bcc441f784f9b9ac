/** Promises 15 and 16, and the TEXTS of the terms. */
public final class RulesTest {
    public static void main(String[] args) {
        feeds();
        rules();
        faults();
        worths();
        held();
        lettersOfAsk();
        inForce();
        Due.finish();
    }

    private static void feeds() {
        SwitchSeven x = new SwitchSeven();
        Due.is("n 0", x.feed(0, 49), -4);
        Due.is("n -1", x.feed(-1, 49), -4);
        Due.is("n 9", x.feed(9, 49), -6);
        for (int i = 1; i <= 7; i++) {
            Due.is("feed 8", x.feed(8, 0x3131313131313131L), 8 * i);
        }
        Due.is("5 too many", x.feed(5, 0x3131313131L), -6);
        Due.is("4 fit", x.feed(4, 0x31313131L), 60);
        Due.is("full", x.feed(1, 49), -6);
        Due.is("bytes on THE TAPE", x.count(7), 60);
        Due.is("the sixth digit can not stand", x.rule(0, 0), -25);
        Due.is("THE TAPE has none", x.count(7), 0);
        x.feed(2, 0x7878782B31L);
        Due.is("only n bytes come, the lowest first", x.rule(0, 0), -22);
        x.feed(8, -1L);
        Due.is("bytes of 255", x.rule(0, 0), -20);
    }

    private static void rules() {
        SwitchSeven x = new SwitchSeven();
        x.days(5);
        Due.feed(x, "1");
        Due.is("purpose 4", x.rule(4, -1), -2);
        Due.is("purpose -1", x.rule(-1, 5), -2);
        Due.is("a DAY ahead of now", x.rule(0, 4), -4);
        Due.is("above 1500", x.rule(0, 1501), -6);
        Due.is("THE TAPE stays", x.count(7), 1);
        Due.is("now", x.rule(0, 5), 1);
        Due.is("THE TAPE has none", x.count(7), 0);
        Due.is("an empty one has a FAULT", x.rule(0, 5), -20);
        Due.is("day 1500", Due.rule(x, "1", 3, 1500), 2);
        for (int i = 3; i <= 30; i++) {
            Due.is("rule " + i, Due.rule(x, "(1)", i % 4, 6), i);
        }
        Due.feed(x, "x");
        Due.is("a 31st: ROOM ahead of its FAULT", x.rule(0, 5), -6);
        Due.is("THE TAPE stays then", x.count(7), 1);
        Due.is("RULES", x.count(6), 30);
        Due.is("refusals of OTHER", x.count(12), 2);
        Due.is("refusals of ROOM", x.count(16), 2);
    }

    private static void faults() {
        String[] texts = {
            "", "+", "1+", "1+*", "1*", "(", "()", "(1", "(1)", "(1))", "1<2", "(1<2", "(1<2)", "(1<2<3)", "(1<)",
            "(<1)", "12345", "123456", "bb", "1b", "b1", "a", "B", "1 ", " 1", "(((((1)))))", "((((((1))))))",
            "(((((1", "1+((((((", "-1", "1--1", "(1=1)=1", "((1=1)=1)", "b+t-s*o/j+l-n*f/w+d", "x", "1+x", "(1)(1)",
            "(1)2", "(((((1)))))+(((((2)))))", "(((((1)))))+((((((2", "1.", "(1>=2)", "(1+2", "00000", "000000"};
        int[] places = {
            0, 0, 2, 2, 2, 1, 1, 2, -1, 3, 1, 4, -1, 4, 3,
            1, -1, 5, 1, 1, 1, 0, 0, 1, 0, -1, 5,
            6, 7, 0, 2, 5, -1, -1, 0, 2, 3,
            3, -1, 17, 1, 3, 4, -1, 5};
        SwitchSeven x = new SwitchSeven();
        int told = 0;
        for (int i = 0; i < texts.length; i++) {
            int want = places[i] < 0 ? ++told : -20 - places[i];
            Due.is("rule of " + texts[i], Due.rule(x, texts[i], 0, 0), want);
        }
        for (int what = 11; what <= 16; what++) {
            Due.is("a FAULT is no refusal", x.count(what), 0);
        }
        Due.is("only those without FAULT are RULES", x.count(6), told);
        String sixty = "1+1+1+1+1+1+1+1+1+1+1+1+1+1+1+1+1+1+1+1+1+1+1+1+1+1+1+1+1+";
        Due.is("60 bytes that lack one", Due.rule(x, sixty + "11", 0, 0), told + 1);
        Due.is("the end of 60", Due.rule(x, sixty + "1+", 0, 0), -80);
    }

    /** An account MOVED on day 9 is sent on so many days as the text is worth. */
    private static void isWorth(String text, int want) {
        SwitchSeven x = Due.withAccounts(1);
        x.ask(0, 1, false);
        x.days(10);
        Due.is("rule of " + text, Due.rule(x, text, 1, 10), 1);
        Due.is("as many as " + text, x.sends(0, 9 + want), 1);
        Due.is("no more than " + text, x.sends(0, 9 + want + 1), -9);
    }

    private static void worths() {
        isWorth("7", 7);
        isWorth("00012", 12);
        isWorth("2+3*4", 14);
        isWorth("(2+3)*4", 20);
        isWorth("20-5-4", 11);
        isWorth("100/7/2", 7);
        isWorth("7/2*2", 6);
        isWorth("50+(0-7)/2", 47);
        isWorth("50+7/(0-2)", 47);
        isWorth("9+8/0", 9);
        isWorth("9+0/0", 9);
        isWorth("5+(1<2)+(2<1)*100", 6);
        isWorth("5+(2>1)+(1>2)*100", 6);
        isWorth("5+(2=2)+(1=2)*100", 6);
        isWorth("5+(2>2)+(2<2)", 5);
        isWorth("3*(1+1=2)+(2*2<5)", 4);
        isWorth("((((2))))*(((((3)))))", 6);
        isWorth("2*3+4*5-6/2", 23);
    }

    private static void held() {
        isWorth("99999*99999/10000/1000", 100);
        isWorth("99999*99999-1-99999*9999-99990+5-9999-1", 13);
        isWorth("10+(0-99999*99999)/(99999*99999)", 9);
        isWorth("5+(99999*99999=10000*50000*2)", 6);
        isWorth("5+(99999*99999+1=99999*99999)", 6);
        isWorth("5+(0-99999*99999-1=0-99999*99999)", 6);
        isWorth("99999*99999*99999*99999/20000/1000", 50);
    }

    private static void mayAsk(String text, boolean may) {
        SwitchSeven x = new SwitchSeven();
        x.account(3, 10, 20);
        x.account(4, 11, -1);
        x.put(0, 500);
        x.over(0, 60);
        x.line(1, 0, 1, 5, 1, 1);
        x.line(2, 0, 1, 5, 1, 1);
        x.line(3, 0, 1, 5, 1, 1);
        x.line(3, 1, 0, 5, 1, 1);
        x.end(1);
        x.bank(3, 0, 77);
        Due.is("rule of " + text, Due.rule(x, text, 0, 0), 1);
        Due.is("ask by " + text, x.ask(0, 5, false), may ? 0 : -3);
    }

    private static void lettersOfAsk() {
        mayAsk("(b=3)", true);
        mayAsk("(t=5)", true);
        mayAsk("(s=500)", true);
        mayAsk("(o=60)", true);
        mayAsk("(j=1)", true);
        mayAsk("(l=2)", true);
        mayAsk("(n+f+w+d=0)", true);
        mayAsk("n*n+f*f+w*w+d*d", false);
        mayAsk("0", false);
        mayAsk("1", true);
        mayAsk("0-1", false);
        mayAsk("s/501", false);
    }

    private static void inForce() {
        SwitchSeven x = Due.withAccounts(1);
        Due.rule(x, "0", 0, 5);
        Due.rule(x, "1", 0, 3);
        Due.rule(x, "0", 0, 2);
        Due.is("none is in force yet", x.ask(0, 1, false), 0);
        x.takeBack(0);
        x.days(2);
        Due.is("from day 2 on", x.ask(0, 1, false), -3);
        x.days(1);
        Due.is("the latest day, not the last told", x.ask(0, 1, false), 1);
        x.takeBack(1);
        x.days(2);
        Due.is("from day 5 on", x.ask(0, 1, false), -3);
        Due.rule(x, "1", 0, 5);
        Due.is("the one told last of day 5", x.ask(0, 1, false), 2);
        x.takeBack(2);
        Due.rule(x, "0", 1, 5);
        Due.is("another PURPOSE's is another's", x.ask(0, 1, false), 3);
    }
}
