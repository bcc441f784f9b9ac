/** What the document says of bounds in its part IV and in promises 20 to 24, each sentence by itself. */
public final class EdgesOfMovesTest {
    public static void main(String[] args) {
        askNobody();
        askNotOpen();
        askInMove();
        askSameBank();
        askWorth();
        askNoRoomForMoves();
        askNoRoomForAccounts();
        askOrder();
        newAccount();
        stepsFromTheDayBehind();
        oneStepInANight();
        lateIsAFault();
        lateOfBoth();
        lateWithoutNight();
        capReached();
        capCountsForBoth();
        capOfRefusedStep();
        movesByNumbers();
        stepThree();
        stepFive();
        stepSix();
        stepSeven();
        takenBackAheadOfSixth();
        refusedOnes();
        agreeNobody();
        agreeNotJoint();
        agreeTold();
        agreeNoMore();
        takeBackNobody();
        takeBackNoMore();
        moveOfNobody();
        moveOfOther();
        moveOfNoneYet();
        owesNobody();
        Due.finish();
    }

    private static SwitchSeven asked(boolean partly) {
        SwitchSeven x = Due.withAccounts(2);
        x.ask(0, 2, partly);
        return x;
    }

    private static void askNobody() {
        Doc.says(20, "A MOVE: its number. -1;");
        SwitchSeven x = Due.withAccounts(2);
        Edge.others("ask of account", account -> x.ask(account, 2, false), 2, -1);
        Edge.others("ask for bank", bank -> x.ask(0, bank, false), 8, -1);
        Due.is("neither", x.ask(2, 8, false), -1);
        Due.is("bank 7", x.ask(0, 7, false), 0);
        Due.is("the last account, bank 0", x.ask(1, 0, false), 1);
    }

    private static void askNotOpen() {
        Doc.says(20, "-3 not OPEN,");
        SwitchSeven x = asked(false);
        x.close(1);
        x.days(10);
        Due.is("MOVED", x.ask(0, 3, false), -3);
        Due.is("CLOSED", x.ask(1, 3, false), -3);
        Due.is("OPEN", x.ask(2, 3, false), 1);
    }

    private static void askInMove() {
        Doc.says(20, "in a MOVE,");
        Doc.says(0, "an OPEN ACCOUNT, in no MOVE that goes on");
        SwitchSeven x = asked(true);
        Due.is("the old one", x.ask(0, 3, false), -3);
        Due.is("the new one", x.ask(2, 3, false), -3);
        x.days(9);
        Due.is("six steps: the old one", x.ask(0, 3, false), -3);
        Due.is("six steps: the new one", x.ask(2, 3, false), -3);
        x.days(1);
        Due.is("it goes on no more: the old one", x.ask(0, 3, false), 1);
        Due.is("the new one", x.ask(2, 3, false), 2);
        x.takeBack(1);
        Due.is("TAKEN BACK", x.ask(0, 3, false), 3);
    }

    private static void askSameBank() {
        Doc.says(20, "the same BANK,");
        SwitchSeven x = new SwitchSeven();
        for (int bank = 0; bank < 8; bank++) {
            x.account(bank, bank, -1);
            Due.is("bank " + bank, x.ask(bank, bank, false), -3);
            Due.is("partly, bank " + bank, x.ask(bank, bank, true), -3);
        }
        Due.is("no MOVE", x.count(4), 0);
        Due.is("no ACCOUNT more", x.count(1), 8);
    }

    private static void askWorth() {
        Doc.says(20, "ASK's worth is not above 0 (in this order)");
        String[] texts = {"0-1", "0", "1"};
        for (int i = 0; i < texts.length; i++) {
            SwitchSeven x = Due.withAccounts(1);
            Due.rule(x, texts[i], 0, 0);
            Due.is("worth " + texts[i], x.ask(0, 1, false), i == 2 ? 0 : -3);
            Due.is("ACCOUNTS", x.count(1), i == 2 ? 2 : 1);
        }
    }

    private static void askNoRoomForMoves() {
        Doc.says(20, "-6 30 MOVES, 40 ACCOUNTS.");
        Doc.says(0, "MOVES have numbers from 0 on (30 at most)");
        SwitchSeven x = Due.withAccounts(1);
        for (int i = 0; i < 30; i++) {
            Due.is("MOVE " + i, x.ask(0, 1, false), i);
            x.takeBack(i);
        }
        Due.is("a 31st", x.ask(0, 1, false), -6);
        Due.is("31 ACCOUNTS", x.count(1), 31);
        Due.is("30 MOVES", x.count(4), 30);
        Due.is("none goes on", x.count(5), 0);
    }

    private static void askNoRoomForAccounts() {
        Doc.says(20, "-6 30 MOVES, 40 ACCOUNTS.");
        SwitchSeven x = Due.withAccounts(39);
        Due.is("the 40th", x.ask(38, 0, false), 0);
        Due.is("its number", x.moveOf(0, 1), 39);
        Due.is("a 41st", x.ask(0, 1, false), -6);
        x.takeBack(0);
        Due.is("the CLOSED one keeps its room", x.ask(38, 0, false), -6);
        Due.is("1 MOVE", x.count(4), 1);
    }

    private static void askOrder() {
        Doc.says(20, "-1; -3 not OPEN, in a MOVE, the same BANK, ASK's worth is not above 0 (in this order); -6");
        SwitchSeven x = Due.withAccounts(39);
        x.close(1);
        x.ask(0, 1, false);
        Due.is("nobody, no room", x.ask(40, 0, false), -1);
        Due.is("no BANK, not OPEN", x.ask(1, 8, false), -1);
        Due.is("not OPEN, no room", x.ask(1, 0, false), -3);
        Due.is("in a MOVE, no room", x.ask(0, 2, false), -3);
        Due.is("the same BANK, no room", x.ask(2, 2, false), -3);
        Due.rule(x, "0", 0, 0);
        Due.is("ASK's worth, no room", x.ask(2, 3, false), -3);
        Due.rule(x, "1", 0, 0);
        Due.is("no room", x.ask(2, 3, false), -6);
    }

    private static void newAccount() {
        Doc.says(0, "is asked to be MOVED to another BANK, wholly or partly: a new ACCOUNT there (same NAMES).");
        SwitchSeven x = new SwitchSeven();
        x.account(0, 9999, 0);
        x.account(0, 0, -1);
        x.put(0, 5);
        x.over(0, 6);
        x.ask(0, 7, false);
        x.ask(1, 7, true);
        Due.is("numbers behind the last", x.moveOf(0, 1) * 10 + x.moveOf(1, 1), 23);
        Due.is("there", x.accountOf(2, 0), 7);
        Due.is("OPEN", x.accountOf(2, 1), 0);
        Due.is("SUM 0", x.sum(2), 0);
        Due.is("OVER 0", x.accountOf(2, 5), 0);
        Due.is("NAME", x.like(2, 9999), 2);
        Due.is("the other NAME", x.like(2, 0), 2);
        Due.is("no other NAME", x.like(3, 9999), 0);
    }

    private static void stepsFromTheDayBehind() {
        Doc.says(0, "STEPS 1 .. 7, one in a NIGHT, from the DAY behind the ask on");
        SwitchSeven x = asked(false);
        x.days(1);
        Due.is("not in the NIGHT of the ask", x.moveOf(0, 2), 0);
        x.days(1);
        Due.is("the day behind", x.moveOf(0, 2), 1);
        SwitchSeven y = Due.withAccounts(1);
        y.days(4);
        y.ask(0, 1, false);
        y.days(3);
        Due.is("asked on Friday: none by Sunday", y.moveOf(0, 2), 0);
        y.days(1);
        Due.is("Monday", y.moveOf(0, 2), 1);
        Due.is("Monday's DAY", y.moveOf(0, 8), 7);
        SwitchSeven z = Due.withAccounts(1);
        z.days(6);
        z.ask(0, 1, false);
        z.days(2);
        Due.is("asked on Sunday: Monday", z.moveOf(0, 2), 1);
    }

    private static void oneStepInANight() {
        Doc.says(0, "STEPS 1 .. 7, one in a NIGHT");
        SwitchSeven x = asked(false);
        int[] steps = {0, 1, 2, 3, 4, 4, 4, 5, 6, 7, 7, 7};
        for (int day = 0; day < steps.length; day++) {
            x.days(1);
            Due.is("steps by the end of day " + day, x.moveOf(0, 2), steps[day]);
            Due.is("it goes on by the end of day " + day, x.moveOf(0, 3), steps[day] < 7 ? 1 : 0);
        }
        Due.is("the last step's DAY", x.moveOf(0, 8), 9);
    }

    private static void lateIsAFault() {
        Doc.says(0, "if the old or the new BANK is LATE on that DAY: no step, and a FAULT of it");
        for (int bank = 0; bank < 4; bank++) {
            SwitchSeven x = asked(false);
            x.late(bank, 1);
            x.days(2);
            boolean isOurs = bank == 0 || bank == 2;
            Due.is("steps, LATE is " + bank, x.moveOf(0, 2), isOurs ? 0 : 1);
            Due.is("FAULTS, LATE is " + bank, x.moveOf(0, 5), isOurs ? 1 : 0);
            Due.is("whose, LATE is " + bank, x.moveOf(0, 6), isOurs ? bank : -9);
            x.days(1);
            Due.is("the day behind, LATE was " + bank, x.moveOf(0, 2), isOurs ? 1 : 2);
        }
    }

    private static void lateOfBoth() {
        Doc.says(0, "(of both: of the old one)");
        SwitchSeven x = asked(false);
        x.late(2, 1);
        x.late(0, 1);
        x.days(2);
        Due.is("one FAULT", x.moveOf(0, 5), 1);
        Due.is("of the old one", x.moveOf(0, 6), 0);
        SwitchSeven y = Due.withAccounts(8);
        y.ask(7, 0, false);
        y.late(0, 1);
        y.late(7, 1);
        y.days(2);
        Due.is("of the old one, though its number is greater", y.moveOf(0, 6), 7);
    }

    private static void lateWithoutNight() {
        Doc.says(0, "STEPS 1 .. 7, one in a NIGHT, from the DAY behind the ask on");
        Doc.says(0, "is LATE on that DAY: no step, and a FAULT of it");
        SwitchSeven x = Due.withAccounts(1);
        x.days(4);
        x.ask(0, 1, false);
        for (int day = 4; day <= 6; day++) {
            x.late(0, day);
        }
        x.holiday(7);
        x.late(1, 7);
        x.days(4);
        Due.is("no FAULT on the day of the ask, at the weekend, on a HOLIDAY", x.moveOf(0, 5), 0);
        x.late(1, 8);
        x.days(1);
        Due.is("a FAULT", x.moveOf(0, 5), 1);
    }

    private static void capReached() {
        Doc.says(0, "else if either did as many steps that NIGHT as its CAP: no step");
        for (int cap = 0; cap <= 3; cap++) {
            for (int bank = 0; bank <= 1; bank++) {
                SwitchSeven x = new SwitchSeven();
                for (int i = 0; i < 3; i++) {
                    x.account(0, i, -1);
                }
                for (int i = 0; i < 3; i++) {
                    x.ask(i, 1, false);
                }
                x.bank(bank, 1, cap);
                x.days(2);
                for (int i = 0; i < 3; i++) {
                    Due.is("CAP " + cap + " of " + bank + ", MOVE " + i, x.moveOf(i, 2), i < cap ? 1 : 0);
                    Due.is("no FAULT", x.moveOf(i, 5), 0);
                }
                x.days(1);
                Due.is("the next NIGHT counts anew", x.moveOf(0, 2), cap == 0 ? 0 : 2);
            }
        }
    }

    private static void capCountsForBoth() {
        Doc.says(0, "else the step is done (it counts for both BANKS)");
        SwitchSeven x = new SwitchSeven();
        x.account(0, 1, -1);
        x.account(1, 2, -1);
        x.account(2, 3, -1);
        x.ask(0, 1, false);
        x.ask(1, 2, false);
        x.ask(2, 0, false);
        x.bank(0, 1, 1);
        x.bank(1, 1, 2);
        x.days(2);
        Due.is("0 to 1", x.moveOf(0, 2), 1);
        Due.is("1 to 2: the second of 1", x.moveOf(1, 2), 1);
        Due.is("2 to 0: 0 did its one", x.moveOf(2, 2), 0);
        x.bank(1, 1, 1);
        x.late(1, 2);
        x.days(1);
        Due.is("LATE: no step", x.moveOf(0, 2), 1);
        Due.is("which counts for none: 0 has its one left", x.moveOf(2, 2), 1);
    }

    private static void capOfRefusedStep() {
        Doc.says(0, "A REFUSED step counts as done.");
        SwitchSeven x = new SwitchSeven();
        x.account(0, 1, 2);
        x.account(0, 3, -1);
        x.ask(0, 1, false);
        x.ask(1, 1, false);
        x.days(3);
        x.bank(0, 1, 1);
        x.days(1);
        Due.is("REFUSED", x.moveOf(0, 4), 1);
        Due.is("three steps", x.moveOf(0, 2), 3);
        Due.is("its DAY", x.moveOf(0, 8), 3);
        Due.is("it counts for the BANKS too", x.moveOf(1, 2), 2);
    }

    private static void movesByNumbers() {
        Doc.says(0, "MOVES that go on by numbers");
        SwitchSeven x = new SwitchSeven();
        x.account(0, 1, -1);
        x.account(0, 2, -1);
        x.ask(1, 1, false);
        x.ask(0, 1, false);
        x.bank(0, 1, 1);
        x.days(2);
        Due.is("the least MOVE, not the least ACCOUNT", x.moveOf(0, 2), 1);
        x.takeBack(0);
        x.days(1);
        Due.is("one that goes on no more takes no step", x.moveOf(1, 2), 1);
    }

    private static SwitchSeven jointAsked(boolean partly, int joint) {
        SwitchSeven x = new SwitchSeven();
        x.account(0, 1, joint);
        x.ask(0, 1, partly);
        x.days(3);
        return x;
    }

    private static void stepThree() {
        Doc.says(0, "Step 3: a JOINT one that was not AGREED by then is REFUSED (WHY 1).");
        for (int partly = 0; partly <= 1; partly++) {
            SwitchSeven x = jointAsked(partly == 1, 0);
            Due.is("two steps", x.moveOf(0, 2), 2);
            Due.is("it goes on", x.moveOf(0, 3), 1);
            x.days(1);
            Due.is("REFUSED", x.moveOf(0, 4), 1);
            Due.is("goes on no more", x.moveOf(0, 3), 0);
            SwitchSeven y = jointAsked(partly == 1, 9999);
            Due.is("AGREED on the day of step 3", y.agree(0), 1);
            y.days(20);
            Due.is("it went through", y.moveOf(0, 2), 7);
            SwitchSeven z = jointAsked(partly == 1, -1);
            z.days(20);
            Due.is("not JOINT", z.moveOf(0, 2), 7);
        }
    }

    /** Account 0 has this SUM as its MOVE comes to step 5. */
    private static int whyAtFive(int sum, String text, boolean partly) {
        SwitchSeven x = asked(partly);
        x.over(0, 10);
        x.put(0, sum + 10);
        x.line(0, 0, 1, 10, 0, 0);
        Due.rule(x, text, 2, 0);
        x.days(8);
        Due.is("SUM", x.sum(0), sum);
        Due.is("five steps", x.moveOf(0, 2), 5);
        return x.moveOf(0, 4);
    }

    private static void stepFive() {
        Doc.says(0, "Step 5: SUM is below 0 and OVERDRAWN's worth above 0: REFUSED (WHY 2; not partly).");
        Due.is("a penny below", whyAtFive(-1, "1", false), 2);
        Due.is("0", whyAtFive(0, "1", false), 0);
        Due.is("a penny above", whyAtFive(1, "1", false), 0);
        Due.is("worth 0", whyAtFive(-1, "0", false), 0);
        Due.is("worth below 0", whyAtFive(-1, "0-1", false), 0);
        Due.is("partly", whyAtFive(-1, "1", true), 0);
        SwitchSeven x = asked(false);
        x.over(0, 10);
        x.line(0, 0, 1, 5, 7, 0);
        x.days(10);
        Due.is("below 0 in the NIGHT of step 5, but behind it", x.moveOf(0, 2), 7);
        Due.is("what is below 0 goes along", x.sum(2), -5);
    }

    private static void stepSix() {
        Doc.says(0, "Step 6: LINES from it are from the new one then (partly: ORDERS alone).");
        for (int partly = 0; partly <= 1; partly++) {
            SwitchSeven x = asked(partly == 1);
            for (int kind = 0; kind < 4; kind++) {
                x.line(kind, 0, 1, 1, 1500, 1);
                x.line(kind, 1, 0, 1, 1500, 1);
            }
            x.days(8);
            for (int i = 0; i < 8; i++) {
                Due.is("five steps, LINE " + i, x.lineOf(i, 1), i % 2);
            }
            x.days(1);
            for (int i = 0; i < 8; i++) {
                boolean goes = i % 2 == 0 && (partly == 0 || i / 2 == 1);
                Due.is("six steps, LINE " + i, x.lineOf(i, 1), goes ? 2 : i % 2);
                Due.is("to as before, LINE " + i, x.lineOf(i, 2), 1 - i % 2);
            }
            x.line(1, 0, 1, 1, 1500, 1);
            x.days(1);
            Due.is("told behind step 6: from the old one", x.lineOf(8, 1), 0);
        }
    }

    private static void stepSeven() {
        Doc.says(0, "Step 7: SUM goes to the new one, OVER does not, it is MOVED (partly: nothing).");
        for (int partly = 0; partly <= 1; partly++) {
            SwitchSeven x = asked(partly == 1);
            x.put(0, 7);
            x.put(2, 5);
            x.over(0, 30);
            x.over(2, 40);
            x.days(9);
            Due.is("six steps: SUM", x.sum(0), 7);
            x.days(1);
            Due.is("SUM of the old one", x.sum(0), partly == 1 ? 7 : 0);
            Due.is("SUM of the new one", x.sum(2), partly == 1 ? 5 : 12);
            Due.is("OVER of the old one", x.accountOf(0, 5), 30);
            Due.is("OVER of the new one", x.accountOf(2, 5), 40);
            Due.is("STATE", x.accountOf(0, 1), partly == 1 ? 0 : 2);
            Due.is("NET", x.net(2), partly == 1 ? 0 : 7);
            Due.is("no WHY", x.moveOf(0, 4), 0);
        }
    }

    private static void takenBackAheadOfSixth() {
        Doc.says(0, "TAKEN BACK (told, ahead of step 6): REFUSED (WHY 3).");
        Doc.says(22, "step 6 was done");
        int[] dayOfSteps = {1, 2, 3, 4, 7, 8, 9};
        for (int steps = 0; steps < dayOfSteps.length; steps++) {
            SwitchSeven x = asked(false);
            x.days(dayOfSteps[steps]);
            Due.is("steps", x.moveOf(0, 2), steps);
            Due.is("takeBack", x.takeBack(0), steps < 6 ? 1 : -3);
            Due.is("WHY", x.moveOf(0, 4), steps < 6 ? 3 : 0);
            Due.is("goes on", x.moveOf(0, 3), steps < 6 ? 0 : 1);
            Due.is("no step for that", x.moveOf(0, 2), steps);
        }
        SwitchSeven y = asked(false);
        Due.is("on the day of the ask", y.takeBack(0), 1);
        y.days(20);
        Due.is("no step comes any more", y.moveOf(0, 2), 0);
    }

    private static void refusedOnes() {
        Doc.says(0, "Of a REFUSED one SUM of the new ACCOUNT goes to the old one, and the new one is CLOSED.");
        SwitchSeven x = asked(false);
        x.put(0, 3);
        x.put(2, 8);
        x.takeBack(0);
        Due.is("SUM of the old one", x.sum(0), 11);
        Due.is("SUM of the new one", x.sum(2), 0);
        Due.is("CLOSED", x.accountOf(2, 1), 1);
        Due.is("the old one is OPEN", x.accountOf(0, 1), 0);
        SwitchSeven y = asked(false);
        y.bank(2, 0, 10);
        y.line(0, 2, 1, 5, 0, 0);
        y.days(1);
        y.takeBack(0);
        Due.is("what is below 0 too", y.sum(0), -10);
        Due.is("none is left", y.sum(2), 0);
        SwitchSeven z = asked(false);
        z.over(0, 9);
        z.line(0, 0, 1, 9, 0, 0);
        z.put(2, 4);
        z.days(8);
        Due.is("REFUSED at step 5", z.moveOf(0, 4), 2);
        Due.is("SUM then", z.sum(0), -5);
        Due.is("CLOSED then", z.accountOf(2, 1), 1);
    }

    private static void agreeNobody() {
        Doc.says(21, "The other holder AGREES: 1. -1;");
        SwitchSeven x = new SwitchSeven();
        Edge.others("agree with no move", x::agree, 0, -1);
        x.account(0, 1, 2);
        x.ask(0, 1, false);
        Edge.others("agree", move -> x.agree(move), 1, -1);
        Due.is("the first", x.agree(0), 1);
    }

    private static void agreeNotJoint() {
        Doc.says(21, "-3 it is not JOINT,");
        SwitchSeven x = asked(false);
        Due.is("not JOINT", x.agree(0), -3);
    }

    private static void agreeTold() {
        Doc.says(21, "told,");
        SwitchSeven x = jointAsked(false, 5);
        Due.is("AGREES", x.agree(0), 1);
        Due.is("told", x.agree(0), -3);
        x.days(1);
        Due.is("told, a day later", x.agree(0), -3);
        Due.is("it goes on", x.moveOf(0, 3), 1);
    }

    private static void agreeNoMore() {
        Doc.says(21, "the MOVE goes on no more.");
        SwitchSeven x = jointAsked(false, 5);
        x.takeBack(0);
        Due.is("TAKEN BACK", x.agree(0), -3);
        SwitchSeven y = jointAsked(false, 5);
        y.days(1);
        Due.is("REFUSED at step 3", y.agree(0), -3);
        y.ask(0, 1, false);
        Due.is("another MOVE of it is another", y.agree(1), 1);
    }

    private static void takeBackNobody() {
        Doc.says(22, "TAKEN BACK: 1. -1;");
        SwitchSeven x = new SwitchSeven();
        Edge.others("takeBack with no move", x::takeBack, 0, -1);
        SwitchSeven y = asked(false);
        Edge.others("takeBack", move -> y.takeBack(move), 1, -1);
        Due.is("the first", y.takeBack(0), 1);
    }

    private static void takeBackNoMore() {
        Doc.says(22, "-3 it goes on no more,");
        SwitchSeven x = asked(false);
        x.days(10);
        Due.is("seven steps", x.takeBack(0), -3);
        SwitchSeven y = asked(true);
        y.days(10);
        Due.is("seven steps, partly", y.takeBack(0), -3);
        SwitchSeven z = jointAsked(false, 4);
        z.days(1);
        Due.is("REFUSED", z.takeBack(0), -3);
        Due.is("its WHY stays", z.moveOf(0, 4), 1);
        SwitchSeven v = asked(false);
        v.takeBack(0);
        Due.is("TAKEN BACK", v.takeBack(0), -3);
    }

    private static void moveOfNobody() {
        Doc.says(23, "-1;");
        SwitchSeven x = new SwitchSeven();
        Edge.others("moveOf with no move", move -> x.moveOf(move, 0), 0, -1);
        SwitchSeven y = asked(false);
        Edge.others("moveOf", move -> y.moveOf(move, 0), 1, -1);
        Due.is("nobody, no such what", y.moveOf(1, 9), -1);
    }

    private static void moveOfOther() {
        Doc.says(23, "-2.");
        SwitchSeven x = asked(false);
        Edge.others("what", what -> x.moveOf(0, what), 9, -2);
        Due.is("the first what", x.moveOf(0, 0), 0);
        Due.is("the last what", x.moveOf(0, 8), -9);
    }

    private static void moveOfNoneYet() {
        Doc.says(23, "4 WHY it was REFUSED (0), 5 FAULTS, 6 the BANK that had the first one (-9)");
        Doc.says(23, "8 the DAY of the NIGHT of its last step (-9).");
        SwitchSeven x = asked(false);
        x.days(1);
        Due.is("not REFUSED", x.moveOf(0, 4), 0);
        Due.is("no FAULT", x.moveOf(0, 5), 0);
        Due.is("of no BANK", x.moveOf(0, 6), -9);
        Due.is("asked on day 0", x.moveOf(0, 7), 0);
        Due.is("no step", x.moveOf(0, 8), -9);
        x.late(2, 1);
        x.days(1);
        Due.is("a FAULT is no step", x.moveOf(0, 8), -9);
        x.days(1);
        Due.is("a step", x.moveOf(0, 8), 2);
    }

    private static void owesNobody() {
        Doc.says(24, "GOOD OWED by a BANK in all. -1.");
        SwitchSeven x = new SwitchSeven();
        Edge.others("owes", x::owes, 8, -1);
        Due.is("bank 0", x.owes(0), 0);
        Due.is("bank 7", x.owes(7), 0);
    }
}
