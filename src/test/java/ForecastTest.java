/** Promises 22 to 24: lack, best, paidIn; promise 21, original, stands with fold in ReportsTest. */
public final class ForecastTest {
    public static void main(String[] args) {
        lack();
        best();
        bestOfTheSame();
        paidInErrors();
        paidInDays();
        paidInTwelveQuarters();
        paidInBehindOthers();
        paidInOnTheLastDay();
        Script.end();
    }

    private static void lack() {
        Script.run("lack", """
                lack() = 0; addAsset(1, 100); addAsset(2, 50); addAsset(9, 10000); addHunter()
                report(0, 0, 1); report(0, 0, 2); report(0, 1, 3); report(0, 2, 4); lack() = 0
                grade(0, 3); lack() = 0; grade(1, 2); lack() = 30
                grade(2, 2); lack() = 60; pay(2) = 0; lack() = 60
                appeal(2, 3); lack() = 60; decide(2, 3) = 2; lack() = 160
                fill(59); lack() = 101; setRate(50); lack() = 0; setRate(200); lack() = 411
                fill(411); lack() = 0; fill(1000); lack() = 0; grade(3, 4); lack() = 0
                pay(0) = 180; lack() = 0; refuse(1) = 0; lack() = 0
                """);
        Script.run("lack counts no paid, refused or folded one", """
                addAsset(1, 100); addHunter(); report(0, 0, 1); report(0, 0, 1); report(0, 0, 2)
                fold(1); grade(0, 3); pay(0) = 90; lack() = 0; grade(2, 3); lack() = 80; refuse(2); lack() = 0
                """);
    }

    private static void best() {
        Script.run("best, errors", """
                best(-1) = INVALID; best(MIN) = INVALID; best(0) = NONE; best(MAX) = NONE
                addHunter(); best(0) = 0; best(1) = NONE; best(-1) = INVALID; best(MAX) = NONE
                """);
        Script.run("best by the standing", """
                addAsset(1, 100); addHunter(); addHunter(); addHunter(); addHunter()
                report(0, 0, 1); report(1, 0, 1); report(2, 0, 2); report(3, 0, 3)
                refuse(0); original(1) = NONE; grade(1, 4); appeal(3, 4); grade(2, 1); pay(2) = 10
                best(0) = 2; best(1) = 1; best(2) = 3; best(3) = 0; best(4) = NONE
                undo(); undo(); undo(); undo(); fold(1); best(0) = 1; best(1) = 0; best(2) = 2; best(3) = 3
                """);
    }

    private static void bestOfTheSame() {
        Script.run("best of the same standing by the money, then by the number", """
                addAsset(1, 1000); addHunter(); addHunter(); addHunter(); addHunter()
                report(1, 0, 1); report(2, 0, 2); report(3, 0, 3)
                best(0) = 0; best(1) = 1; best(2) = 2; best(3) = 3
                grade(0, 2); pay(0); grade(1, 3); pay(1); grade(2, 2); pay(2)
                best(0) = 2; best(1) = 1; best(2) = 3; best(3) = 0
                report(0, 0, 4); grade(3, 1); pay(3); best(3) = 0; best(0) = 2
                """);
    }

    private static void paidInErrors() {
        Script.run("paidIn, errors", """
                paidIn(0) = INVALID; addAsset(1, 10); addHunter()
                report(0, 0, 1); report(0, 0, 1); report(0, 0, 2); report(0, 0, 3); report(0, 0, 4)
                paidIn(-1) = INVALID; paidIn(5) = INVALID; paidIn(MIN) = INVALID; paidIn(MAX) = INVALID
                paidIn(0) = ILLEGAL; fold(1); paidIn(1) = ILLEGAL; refuse(2); paidIn(2) = ILLEGAL
                grade(3, 1); paidIn(3) = ILLEGAL; pay(3) = 10; paidIn(3) = ILLEGAL
                grade(4, 1); pay(4) = 0; paidIn(4) = 90; appeal(4, 2); paidIn(4) = NONE; decide(4, 2); paidIn(4) = 360
                """);
    }

    private static void paidInDays() {
        Script.run("paidIn, the days up to the quarter", """
                addAsset(1, 80); addHunter(); report(0, 0, 1); grade(0, 4); pay(0) = 0; paidIn(0) = 90
                pass(1); paidIn(0) = 89; pass(88); paidIn(0) = 1; setRate(200); paidIn(0) = 181
                pass(1) = 0; paidIn(0) = 180; pass(89) = 0; pass(90) = 0; paidIn(0) = 1; pass(1) = 1
                """);
        Script.run("paidIn, money that is there already waits for the quarter", """
                addAsset(1, 0); addHunter(); report(0, 0, 1); grade(0, 1); pay(0) = 0; paidIn(0) = NONE
                pass(100); fill(10); paidIn(0) = 80; fill(10); pay(0) = 10; paidIn(0) = ILLEGAL
                """);
    }

    private static void paidInTwelveQuarters() {
        Script.run("paidIn, the twelfth quarter", """
                addAsset(1, 13); addHunter(); report(0, 0, 1); grade(0, 4); pay(0) = 0; paidIn(0) = 1080
                pass(89); paidIn(0) = 991; pass(400); pass(400); pass(101) = 0; pass(89) = 0; pass(1) = 1
                """);
        Script.run("paidIn, the thirteenth quarter", """
                addAsset(1, 12); addHunter(); report(0, 0, 1); grade(0, 4); pay(0) = 0; paidIn(0) = NONE
                pass(89); paidIn(0) = NONE; pass(1); paidIn(0) = 1080
                """);
    }

    private static void paidInBehindOthers() {
        Script.run("paidIn, others are paid before", """
                addAsset(1, 100); addAsset(1, 0); addHunter(); report(0, 0, 1); report(0, 0, 2); report(0, 1, 3)
                grade(0, 4); grade(1, 4); grade(2, 2); pay(1) = 0; pay(2) = 0; paidIn(1) = 90; paidIn(2) = 270
                pay(0) = 0; paidIn(0) = 90; paidIn(1) = 270; paidIn(2) = 270
                refuse(0); paidIn(1) = 90
                """);
    }

    private static void paidInOnTheLastDay() {
        Script.run("paidIn, the day is not bounded", """
                addAsset(1, 5); addHunter(); report(0, 0, 1); grade(0, 1); pay(0) = 0; appeal(0, 2)
                """, "pass(400)\n".repeat(24), "pass(399)\n", """
                decide(0, 1) = 0; paidIn(0) = 81; pass(1) = ILLEGAL
                """);
    }
}
