/** Promises 13 to 15: pay, retest, pass. */
public final class PayingTest {
    private static final String DESK = """
            addAsset(1, 100); addAsset(2, 0)
            addHunter(); addHunter(); addHunter(); addHunter(); addHunter()
            """;

    public static void main(String[] args) {
        payErrors();
        payFromPoolAndReserve();
        payAtTheRateOfThen();
        payParts();
        retestErrors();
        retestOnlyByOthers();
        retestCloses();
        retestBonus();
        bonusesAddUp();
        retestMakesNewAgain();
        passErrors();
        passQuarters();
        passPaysWaiting();
        Script.end();
    }

    private static void payErrors() {
        Script.run("pay, errors", DESK, """
                pay(0) = INVALID
                report(0, 0, 1); report(1, 0, 1); report(2, 0, 2); report(3, 0, 3)
                pay(-1) = INVALID; pay(4) = INVALID; pay(MIN) = INVALID; pay(MAX) = INVALID
                pay(0) = ILLEGAL; fold(1); pay(1) = ILLEGAL; refuse(2); pay(2) = ILLEGAL
                grade(3, 1); appeal(3, 2); pay(3) = ILLEGAL; decide(3, 1); pay(3) = 10; pay(3) = ILLEGAL
                """);
    }

    private static void payFromPoolAndReserve() {
        Script.run("pay from the pool, then from the reserve", DESK, """
                report(0, 0, 1); report(0, 0, 2); report(0, 0, 3); report(1, 1, 1)
                grade(0, 3); grade(1, 2); grade(2, 2); grade(3, 1); fill(50)
                pay(0) = 90; asset(0, 2) = 10; count(2) = 50; hunter(0, 1) = 90
                reportOf(0, 3) = 3; reportOf(0, 9) = 90; reportOf(0, 4) = 3; reportOf(0, 7) = 90
                pay(1) = 40; asset(0, 2) = 0; count(2) = 20; count(13) = 130
                pay(2) = 0; reportOf(2, 3) = 2; reportOf(2, 9) = 0; count(2) = 20; pay(2) = 0; count(8) = 1
                pay(3) = 20; count(2) = 0; count(12) = 0; asset(1, 2) = 0; hunter(1, 1) = 20
                fill(39); pay(2) = 0; fill(1); pay(2) = 40; count(8) = 0; count(9) = 4; count(13) = 190
                """);
    }

    private static void payAtTheRateOfThen() {
        Script.run("pay at the rate of then", DESK, """
                report(0, 0, 1); grade(0, 1) = 10; setRate(199); pay(0) = 19; setRate(50)
                reportOf(0, 9) = 19; reportOf(0, 7) = 5; hunter(0, 1) = 19; count(13) = 19
                """);
    }

    private static void payParts() {
        Script.run("parts for the first three that are folded", DESK, """
                report(0, 0, 1); report(1, 0, 1); report(2, 0, 1); report(1, 0, 1); report(3, 0, 1)
                setRate(199); fold(4); fold(3); fold(2); fold(1); grade(0, 2); pay(0) = 79
                hunter(0, 1) = 58; hunter(1, 1) = 14; hunter(2, 1) = 7; hunter(3, 1) = 0
                """);
        Script.run("a part for the hunter of the report, too", DESK, """
                report(0, 0, 1); report(0, 0, 1); report(0, 0, 2); report(1, 0, 2)
                fold(1); grade(0, 1); pay(0) = 10; hunter(0, 1) = 10
                setRate(50); fold(3); grade(2, 1); pay(2) = 5; hunter(0, 1) = 15; hunter(1, 1) = 0
                """);
        Script.run("no part for what is folded behind the payment", DESK, """
                report(0, 0, 1); report(1, 0, 1); grade(0, 3); pay(0) = 90; fold(1) = 0
                hunter(0, 1) = 90; hunter(1, 1) = 0; hunter(1, 2) = 1
                """);
    }

    private static void retestErrors() {
        Script.run("retest, errors", DESK, """
                retest(0, 0, 1) = INVALID
                report(0, 0, 1); report(0, 0, 2); report(0, 0, 2); report(0, 0, 3); report(0, 1, 4)
                retest(-1, 0, 1) = INVALID; retest(5, 0, 1) = INVALID; retest(MAX, 0, 1) = INVALID
                retest(1, -1, 1) = INVALID; retest(1, 5, 1) = INVALID; retest(1, MIN, 1) = INVALID
                retest(1, 0, -1) = INVALID; retest(1, 0, 2) = INVALID; retest(1, 0, MIN) = INVALID
                retest(1, 0, 1) = ILLEGAL; grade(0, 1); retest(1, 0, 1) = ILLEGAL
                fold(2); retest(1, 2, 1) = ILLEGAL; refuse(3); retest(1, 3, 1) = ILLEGAL
                grade(4, 1); pay(4) = 0; retest(1, 4, 1) = ILLEGAL
                pay(0) = 10; retest(1, 0, 2) = INVALID
                retest(1, 0, 1) = 0; retest(1, 0, 1) = ILLEGAL; retest(1, 0, 0) = ILLEGAL
                retest(2, 0, 0) = 0; retest(2, 0, 1) = ILLEGAL
                retest(3, 0, 1) = 1; retest(4, 0, 1) = ILLEGAL; retest(4, 0, 0) = ILLEGAL
                """);
    }

    private static void retestOnlyByOthers() {
        Script.run("a retest by who has not reported it", DESK, """
                report(0, 0, 1); report(1, 0, 1); report(2, 0, 1); report(3, 0, 1)
                fold(1); grade(2, 1); grade(0, 1); pay(0); retest(0, 0, 1) = ILLEGAL; retest(1, 0, 1) = ILLEGAL
                retest(2, 0, 1) = 0; retest(3, 0, 0) = 0; fold(3) = 0; undo(); undo()
                fold(3) = 0; retest(3, 0, 0) = ILLEGAL; retest(4, 0, 1) = 1
                """);
    }

    private static void retestCloses() {
        Script.run("closed as gone", DESK, """
                fill(100); report(0, 0, 1); grade(0, 1); pay(0)
                retest(1, 0, 1) = 0; reportOf(0, 10) = 1; reportOf(0, 11) = 0; reportOf(0, 12) = 0
                retest(2, 0, 0) = 0; reportOf(0, 10) = 1; reportOf(0, 11) = 1; count(14) = 0
                retest(3, 0, 1) = 1; reportOf(0, 10) = 2; reportOf(0, 11) = 1; reportOf(0, 12) = 1
                reportOf(0, 3) = 3; reportOf(0, 4) = 1; count(14) = 40; count(2) = 60; count(13) = 10
                hunter(1, 1) = 20; hunter(1, 5) = 1; hunter(1, 2) = 1
                hunter(2, 1) = 0; hunter(2, 5) = 0; hunter(2, 2) = 0
                hunter(3, 1) = 20; hunter(3, 5) = 1; hunter(0, 1) = 10; hunter(0, 2) = 3
                """);
    }

    private static void retestBonus() {
        Script.run("a bonus for both or for none", DESK, """
                setBonus(25); fill(49); report(0, 0, 1); grade(0, 1); pay(0)
                retest(1, 0, 1); retest(2, 0, 1) = 1
                hunter(1, 1) = 0; hunter(1, 5) = 0; hunter(2, 2) = 0; count(2) = 49; count(14) = 0
                undo(); fill(1) = 50; retest(2, 0, 1) = 1
                hunter(1, 1) = 25; hunter(2, 1) = 25; hunter(2, 2) = 1; count(2) = 0; count(14) = 50
                """);
        Script.run("a bonus of 0 is one, too", DESK, """
                setBonus(0); report(0, 0, 1); grade(0, 1); pay(0)
                retest(1, 0, 0); retest(2, 0, 0) = 2; count(2) = 0; count(14) = 0
                hunter(1, 1) = 0; hunter(1, 5) = 1; hunter(1, 2) = 1; hunter(2, 5) = 1; hunter(2, 2) = 1
                """);
        Script.run("the bonus of the day when it is closed, not from a pool", DESK, """
                fill(1000); report(0, 0, 1); grade(0, 1); pay(0); retest(1, 0, 0)
                setBonus(500); retest(2, 0, 0) = 2; hunter(1, 1) = 500; hunter(2, 1) = 500
                count(2) = 0; asset(0, 2) = 90
                """);
    }

    private static void bonusesAddUp() {
        Script.run("bonuses add up, with what was paid, for the first hunter as well", DESK, """
                fill(200); report(1, 0, 1); report(1, 0, 2); report(0, 0, 3)
                grade(0, 1); grade(1, 1); grade(2, 1); pay(0); pay(1); pay(2) = 10
                retest(0, 0, 1); retest(4, 0, 1) = 1; hunter(0, 1) = 30; hunter(4, 1) = 20; count(14) = 40
                setBonus(30); retest(4, 1, 0); retest(0, 1, 0) = 2
                hunter(0, 1) = 60; hunter(4, 1) = 50; count(14) = 100; count(2) = 100
                hunter(0, 5) = 2; hunter(0, 2) = 5; hunter(4, 5) = 2; hunter(4, 2) = 2; hunter(3, 5) = 0
                """);
    }

    private static void retestMakesNewAgain() {
        Script.run("as still there it is new again", DESK, """
                fill(100); report(0, 0, 1); report(1, 0, 1); grade(0, 1); appeal(0, 2); decide(0, 2); fold(1)
                pay(0) = 40; retest(4, 0, 1) = 0; retest(2, 0, 0) = 0; retest(3, 0, 0) = 2
                reportOf(0, 3) = 0; reportOf(0, 4) = NONE; reportOf(0, 7) = NONE; reportOf(0, 8) = 0
                reportOf(0, 9) = 40; reportOf(0, 10) = 0; reportOf(0, 11) = 0; reportOf(0, 12) = 0
                reportOf(0, 6) = 0; reportOf(1, 3) = 0; reportOf(1, 5) = NONE
                hunter(0, 1) = 36; hunter(0, 2) = 2; hunter(1, 1) = 4; hunter(1, 2) = 0; count(13) = 40
                hunter(2, 5) = 1; hunter(3, 5) = 1; hunter(4, 5) = 0; count(14) = 40
                grade(0, 1) = 10; reportOf(0, 9) = 40; pay(0) = 10; reportOf(0, 9) = 10; count(13) = 50
                retest(1, 0, 1) = 0; retest(2, 0, 1) = 1; hunter(2, 5) = 2
                """);
    }

    private static void passErrors() {
        Script.run("pass, errors", """
                pass(0) = INVALID; pass(-1) = INVALID; pass(401) = INVALID; pass(MIN) = INVALID; pass(MAX) = INVALID
                pass(1) = 0; pass(88) = 0; count(0) = 89; count(1) = 0; pass(1) = 0; count(1) = 1
                """);
        Script.run("pass to the last day", "pass(400)\n".repeat(24), """
                pass(400) = ILLEGAL; pass(401) = INVALID; pass(0) = INVALID
                pass(399) = 0; count(0) = 9999; count(1) = 111; pass(1) = ILLEGAL; pass(0) = INVALID
                """);
    }

    private static void passQuarters() {
        Script.run("what is above the allowance goes to the reserve", DESK, """
                report(0, 0, 1); grade(0, 2); pay(0) = 40; pass(89) = 0
                asset(0, 2) = 60; count(2) = 0
                pass(1) = 0; asset(0, 2) = 160; asset(1, 2) = 0; count(2) = 0
                pass(89) = 0; count(2) = 0; pass(1) = 0; asset(0, 2) = 200; count(2) = 60; count(12) = 200
                pass(180) = 0; asset(0, 2) = 200; count(2) = 260
                pass(400) = 0; count(0) = 760; count(1) = 8; count(2) = 660
                """);
    }

    private static void passPaysWaiting() {
        Script.run("the waiting ones are paid by their numbers, no graded one", DESK, """
                report(0, 0, 1); report(1, 0, 2); report(2, 1, 3)
                grade(0, 4); grade(1, 4); grade(2, 1); pay(1) = 0; pay(0) = 0
                pass(90) = 1; reportOf(0, 3) = 3; reportOf(0, 9) = 160; reportOf(1, 3) = 2; asset(0, 2) = 40
                pass(90) = 0; asset(0, 2) = 140
                pass(90) = 1; reportOf(1, 3) = 3; asset(0, 2) = 40; count(2) = 40; reportOf(2, 3) = 1
                """);
        Script.run("one that can't be paid does not keep later ones from it", DESK, """
                report(0, 1, 1); report(1, 0, 2); grade(0, 4); pay(0) = 0
                setRate(200); grade(1, 3); pay(1) = 0
                pass(90) = 1; reportOf(0, 3) = 2; reportOf(1, 3) = 3; asset(0, 2) = 20; hunter(1, 1) = 180
                """);
        Script.run("the waiting ones share the reserve, behind all allowances", """
                addAsset(2, 0); addAsset(1, 100); addHunter()
                report(0, 0, 1); report(0, 0, 2); grade(0, 1); grade(1, 1); pay(0) = 0; pay(1) = 0; fill(30)
                pass(90) = 1; reportOf(0, 3) = 3; reportOf(1, 3) = 2; count(2) = 10
                pass(90) = 1; reportOf(1, 3) = 3; count(2) = 90; asset(1, 2) = 200
                """);
        Script.run("an open appeal keeps a waiting one from it", DESK, """
                setRate(200); report(0, 0, 1); report(1, 0, 1); grade(0, 3); pay(0) = 0; fold(1); appeal(0, 4)
                pass(90) = 0; reportOf(0, 3) = 2; decide(0, 3) = 0; asset(0, 2) = 200; reportOf(0, 3) = 2
                pass(89) = 0; pass(1) = 1; hunter(0, 1) = 162; hunter(1, 1) = 18; count(2) = 100; asset(0, 2) = 20
                """);
        Script.run("several quarters in one go", DESK, """
                setRate(200); report(0, 0, 1); report(1, 0, 2); grade(0, 4); grade(1, 3); pay(0) = 0; pay(1) = 0
                pass(400) = 2; asset(0, 2) = 0; count(2) = 0; hunter(0, 1) = 320; hunter(1, 1) = 180
                """);
    }
}
