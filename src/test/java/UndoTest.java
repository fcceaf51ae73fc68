/** Promise 16: undo. That each deed is undone wholly is tested by Script behind every deed. */
public final class UndoTest {
    public static void main(String[] args) {
        noneRemembered();
        eightAreRemembered();
        whatIsNoDeed();
        deedsThatChangeNothing();
        backAndForth();
        backToAnEarlierAppeal();
        Script.end();
    }

    private static void noneRemembered() {
        Script.run("none is remembered", """
                undo() = ILLEGAL; fill(1) = 1; undo() = 0; undo() = ILLEGAL; count(2) = 0; undo() = ILLEGAL
                """);
    }

    private static void eightAreRemembered() {
        Script.run("eight are remembered", "fill(1)\n".repeat(20), """
                count(16) = 8; undo() = 7; count(2) = 19; undo() = 6; undo() = 5; undo() = 4
                undo() = 3; undo() = 2; undo() = 1; undo() = 0; undo() = ILLEGAL
                count(2) = 12; count(16) = 0; fill(5) = 17; undo() = 0; count(2) = 12
                """);
        Script.run("the ninth is forgotten", """
                addAsset(1, 5); addHunter(); fill(1); fill(2); setRate(60); setBonus(30); report(0, 0, 1); pass(100)
                count(16) = 8; grade(0, 1) = 6; count(16) = 8
                undo() = 7; count(0) = 100; undo() = 6; count(0) = 0; undo() = 5; count(5) = 0
                undo() = 4; setBonus(20) = 20; undo() = 4; undo() = 3; setRate(100) = 100; undo() = 3
                undo() = 2; count(2) = 1; undo() = 1; undo() = 0; count(4) = 0; count(3) = 1; undo() = ILLEGAL
                """);
    }

    private static void whatIsNoDeed() {
        Script.run("errors and looks are no deeds", """
                fill(0); fill(1) = 1; fill(0); addAsset(0, 0); report(0, 0, 0); fold(0); pay(0); pass(0)
                count(2); lack(); best(0); asset(0, 0); original(0); paidIn(0)
                count(16) = 1; undo() = 0; count(2) = 0
                """);
    }

    private static void deedsThatChangeNothing() {
        Script.run("a deed is remembered also if nothing changes by it", """
                setRate(100) = 100; setRate(100) = 100; count(16) = 2; undo() = 1; setBonus(20) = 20; count(16) = 2
                addAsset(1, 0); addHunter(); report(0, 0, 1); grade(0, 1); count(16) = 6
                pay(0) = 0; pay(0) = 0; count(16) = 8; undo() = 7; reportOf(0, 3) = 2; undo() = 6; reportOf(0, 3) = 1
                """);
    }

    private static void backAndForth() {
        Script.run("deeds behind an undo", """
                addAsset(2, 100); addHunter(); addHunter(); addHunter(); report(0, 0, 1); report(1, 0, 1)
                fold(1); grade(0, 2); pay(0) = 80; retest(2, 0, 0) = 0; undo(); undo() = 6
                reportOf(0, 3) = 1; hunter(0, 1) = 0; hunter(1, 1) = 0; asset(0, 2) = 100; count(13) = 0
                undo() = 5; undo() = 4; fold(1) = 0; grade(0, 1) = 20; pay(0) = 20; hunter(1, 1) = 2
                refuse(0) = ILLEGAL; undo(); refuse(0) = 1; undo() = 6; reportOf(1, 5) = 0; reportOf(0, 3) = 1
                """);
    }

    private static void backToAnEarlierAppeal() {
        Script.run("back to the claim of an earlier appeal", """
                addAsset(2, 100); addHunter(); addHunter(); addHunter(); report(0, 0, 1); grade(0, 1)
                appeal(0, 2) = 80; decide(0, 1) = 0; pay(0) = 20; retest(1, 0, 0) = 0; retest(2, 0, 0) = 2
                grade(0, 1) = 20; appeal(0, 4) = 320
                undo(); undo(); undo(); undo(); undo(); undo() = 2
                reportOf(0, 8) = 1; decide(0, 4) = INVALID; decide(0, 3) = INVALID; decide(0, 2) = 2
                """);
    }
}
