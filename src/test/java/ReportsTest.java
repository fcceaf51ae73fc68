/** Promises 7 to 12 and 21: report, fold, grade, refuse, appeal, decide, original. */
public final class ReportsTest {
    private static final String DESK = """
            addAsset(2, 100); addAsset(9, 0); addHunter(); addHunter(); addHunter()
            """;

    public static void main(String[] args) {
        report();
        reportCapacity();
        fold();
        foldIntoTheFirstThatCounts();
        foldWhatIsNewAgain();
        grade();
        refuse();
        refuseReleasesTheFolded();
        appeal();
        appealOnceForEachReport();
        decide();
        Script.end();
    }

    private static void report() {
        Script.run("report", "report(0, 0, 0) = INVALID\n", DESK, """
                report(-1, 0, 0) = INVALID; report(3, 0, 0) = INVALID; report(MIN, 0, 0) = INVALID
                report(0, -1, 0) = INVALID; report(0, 2, 0) = INVALID; report(0, MAX, 0) = INVALID
                report(0, 0, -1) = INVALID; report(0, 0, 100) = INVALID; report(0, 0, MIN) = INVALID
                report(2, 1, 99) = 0; report(1, 0, 0) = 1
                reportOf(0, 0) = 2; reportOf(0, 1) = 1; reportOf(0, 2) = 99; reportOf(0, 3) = 0
                reportOf(0, 4) = NONE; reportOf(0, 5) = NONE; reportOf(0, 6) = 0
                reportOf(0, 7) = NONE; reportOf(0, 8) = 0; reportOf(0, 9) = 0
                reportOf(0, 10) = 0; reportOf(0, 11) = 0; reportOf(0, 12) = 0
                reportOf(1, 0) = 1; reportOf(1, 1) = 0; reportOf(1, 2) = 0
                count(5) = 2; count(6) = 2
                """);
    }

    private static void reportCapacity() {
        Script.run("report up to 40", DESK, "report(0, 0, 5)\n".repeat(39), """
                report(1, 1, 5) = 39; report(1, 1, 5) = FULL; count(5) = 40
                report(3, 1, 5) = INVALID; report(1, 2, 5) = INVALID; report(1, 1, 100) = INVALID
                fold(38) = 0; refuse(0) = 1; report(0, 0, 5) = FULL
                """);
        Script.run("a report that is taken in anew has nothing of the one undone", DESK, """
                report(0, 0, 5); report(1, 0, 5); grade(0, 2); appeal(0, 3); decide(0, 3); pay(0)
                undo(); undo(); undo(); undo(); undo(); undo() = 2
                report(2, 1, 6) = 0; reportOf(0, 3) = 0; reportOf(0, 4) = NONE; reportOf(0, 8) = 0
                reportOf(0, 9) = 0; grade(0, 1) = 90; appeal(0, 2) = 360
                """);
    }

    private static void fold() {
        Script.run("fold", DESK, """
                fold(0) = INVALID
                report(0, 0, 7); report(1, 0, 7); report(2, 0, 7); report(1, 1, 7); report(1, 0, 8)
                fold(-1) = INVALID; fold(5) = INVALID; fold(MIN) = INVALID; fold(MAX) = INVALID
                fold(0) = ILLEGAL; original(0) = NONE
                original(3) = NONE; fold(3) = ILLEGAL; original(4) = NONE; fold(4) = ILLEGAL
                original(1) = 0; original(2) = 0
                fold(2) = 0; original(2) = NONE; fold(2) = ILLEGAL
                reportOf(2, 3) = 5; reportOf(2, 5) = 0; reportOf(2, 4) = NONE; reportOf(2, 7) = NONE
                reportOf(0, 6) = 1; reportOf(0, 5) = NONE; hunter(2, 2) = 1; count(11) = 1
                fold(1) = 0; reportOf(0, 6) = 2; count(6) = 3
                original(5) = INVALID; original(-1) = INVALID; original(MAX) = INVALID
                """);
    }

    private static void foldIntoTheFirstThatCounts() {
        Script.run("fold into graded, waiting and paid ones", DESK, """
                report(0, 0, 1); report(0, 0, 1); report(0, 0, 1); report(0, 0, 1); report(0, 0, 1)
                grade(0, 4); original(1) = 0; fold(1) = 0
                pay(0) = 0; original(2) = 0; fold(2) = 0
                setRate(50); fill(60); pay(0) = 160; original(3) = 0; fold(3) = 0
                reportOf(0, 6) = 3; original(4) = 0; grade(4, 1) = 10; original(4) = NONE; fold(4) = ILLEGAL
                """);
        Script.run("fold not into a refused or a folded one, nor into a later one", DESK, """
                report(0, 0, 1); report(1, 0, 1); report(2, 0, 1); report(0, 0, 1)
                refuse(0) = 0; original(0) = NONE; original(1) = NONE; fold(1) = ILLEGAL
                original(2) = 1; fold(2) = 1; original(3) = 1; fold(3) = 1
                reportOf(1, 6) = 2; reportOf(0, 6) = 0; fold(0) = ILLEGAL
                """);
        Script.run("fold into the earliest though a later one is new as well", DESK, """
                report(0, 0, 1); report(1, 0, 1); report(2, 0, 1)
                grade(1, 2); original(2) = 0; fold(2) = 0; refuse(0) = 1; original(2) = 1; fold(2) = 1
                """);
    }

    private static void foldWhatIsNewAgain() {
        Script.run("what was paid and is new again can be folded", DESK, """
                addHunter(); report(0, 0, 1); report(1, 0, 1)
                grade(1, 1) = 20; pay(1) = 20; retest(2, 1, 0); retest(3, 1, 0) = 2
                original(1) = 0; fold(1) = 0; reportOf(1, 9) = 20; reportOf(1, 3) = 5
                refuse(0) = 1; reportOf(1, 3) = 0; reportOf(1, 9) = 20
                """);
    }

    private static void grade() {
        Script.run("grade", DESK, """
                grade(0, 1) = INVALID
                report(0, 0, 1); report(1, 1, 1); report(0, 0, 1); report(0, 0, 2); report(0, 0, 3)
                grade(-1, 1) = INVALID; grade(5, 1) = INVALID; grade(MIN, 1) = INVALID
                grade(0, 0) = INVALID; grade(0, 5) = INVALID; grade(0, MIN) = INVALID; grade(0, MAX) = INVALID
                grade(0, 2) = 80; reportOf(0, 3) = 1; reportOf(0, 4) = 2; reportOf(0, 7) = 80
                grade(1, 4) = 1440; count(7) = 2; asset(1, 4) = 1440
                setRate(50); grade(3, 1) = 10; setRate(199); grade(4, 3) = 358
                grade(0, 2) = ILLEGAL; grade(0, 5) = INVALID
                fold(2) = 0; grade(2, 1) = ILLEGAL
                pay(3) = 39; grade(3, 1) = ILLEGAL
                pay(1) = 0; reportOf(1, 3) = 2; grade(1, 1) = ILLEGAL
                refuse(4) = 0; grade(4, 1) = ILLEGAL
                """);
    }

    private static void refuse() {
        Script.run("refuse", DESK, """
                refuse(0) = INVALID
                report(0, 0, 1); report(1, 0, 2); report(1, 1, 3); report(2, 0, 4); report(2, 0, 4)
                refuse(-1) = INVALID; refuse(5) = INVALID; refuse(MAX) = INVALID
                refuse(0) = 0; reportOf(0, 3) = 4; refuse(0) = ILLEGAL; hunter(0, 2) = -2; count(10) = 1
                grade(1, 1); refuse(1) = 0; reportOf(1, 4) = NONE; reportOf(1, 7) = NONE; hunter(1, 2) = -2
                grade(2, 1); pay(2) = 0; refuse(2) = 0; reportOf(2, 3) = 4; count(8) = 0
                fold(4) = 3; refuse(4) = ILLEGAL
                grade(3, 1); pay(3) = 20; refuse(3) = ILLEGAL
                """);
        Script.run("refuse with an appeal", DESK, """
                report(0, 0, 1); grade(0, 1); appeal(0, 2); refuse(0) = ILLEGAL
                decide(0, 2); refuse(0) = 0; reportOf(0, 8) = 2; reportOf(0, 4) = NONE
                hunter(0, 3) = 1; hunter(0, 2) = 0; appeal(0, 3) = ILLEGAL; decide(0, 3) = ILLEGAL
                """);
    }

    private static void refuseReleasesTheFolded() {
        Script.run("those folded into a refused one are new again", DESK, """
                report(0, 0, 1); report(1, 0, 1); report(2, 0, 1); report(2, 0, 2); report(2, 0, 2)
                fold(1); fold(2); fold(4) = 3
                refuse(0) = 2; reportOf(1, 3) = 0; reportOf(2, 3) = 0; reportOf(1, 5) = NONE
                reportOf(4, 5) = 3; reportOf(0, 6) = 0; hunter(1, 2) = 0
                original(2) = 1; fold(2) = 1; refuse(1) = 1; original(2) = NONE; refuse(2) = 0
                """);
    }

    private static void appeal() {
        Script.run("appeal", DESK, """
                appeal(0, 2) = INVALID
                report(0, 0, 1); report(1, 1, 1); report(1, 0, 1); report(2, 0, 2)
                appeal(-1, 2) = INVALID; appeal(4, 2) = INVALID; appeal(MIN, 2) = INVALID
                appeal(0, 1) = INVALID; appeal(0, 5) = INVALID; appeal(0, MIN) = INVALID; appeal(0, MAX) = INVALID
                appeal(0, 2) = ILLEGAL
                grade(0, 2); appeal(0, 2) = ILLEGAL; appeal(0, 1) = INVALID
                setRate(150); appeal(0, 3) = 270; reportOf(0, 8) = 1; reportOf(0, 4) = 2; reportOf(0, 7) = 120
                count(15) = 1; appeal(0, 4) = ILLEGAL; pay(0) = ILLEGAL
                grade(1, 3); pay(1) = 0; appeal(1, 3) = ILLEGAL; appeal(1, 4) = 2160; reportOf(1, 3) = 2; count(15) = 2
                fold(2) = 0; appeal(2, 4) = ILLEGAL
                grade(3, 1); pay(3) = 30; appeal(3, 4) = ILLEGAL
                decide(0, 2); refuse(0); appeal(0, 4) = ILLEGAL
                """);
    }

    private static void appealOnceForEachReport() {
        Script.run("appeal once, but anew when the report is new again", DESK, """
                addHunter(); report(0, 0, 1); grade(0, 1); appeal(0, 2) = 80; decide(0, 1) = 0
                appeal(0, 3) = ILLEGAL; pay(0) = 20; retest(1, 0, 0); retest(2, 0, 0) = 2
                reportOf(0, 8) = 0; hunter(0, 4) = 1; hunter(0, 2) = -1
                grade(0, 3) = 180; appeal(0, 4) = 320; decide(0, 4) = 2; hunter(0, 3) = 1; hunter(0, 4) = 1
                """);
    }

    private static void decide() {
        Script.run("decide", DESK, """
                decide(0, 2) = INVALID
                report(0, 0, 1); report(1, 0, 2); report(2, 1, 3)
                decide(-1, 2) = INVALID; decide(3, 2) = INVALID; decide(MAX, 2) = INVALID
                decide(0, 2) = ILLEGAL; decide(0, 9) = ILLEGAL; decide(3, 9) = INVALID
                grade(0, 2); decide(0, 2) = ILLEGAL; appeal(0, 3)
                decide(0, 1) = INVALID; decide(0, 4) = INVALID; decide(0, MIN) = INVALID; decide(0, MAX) = INVALID
                decide(0, 2) = 0; reportOf(0, 8) = 2; reportOf(0, 4) = 2; count(15) = 0
                hunter(0, 3) = 0; hunter(0, 4) = 1; hunter(0, 2) = -1
                decide(0, 2) = ILLEGAL; decide(0, 9) = ILLEGAL
                grade(1, 1); appeal(1, 4); decide(1, 3) = 1; reportOf(1, 4) = 3; reportOf(1, 7) = 180
                hunter(1, 3) = 0; hunter(1, 4) = 0; hunter(1, 2) = 0
                grade(2, 1); pay(2) = 0; appeal(2, 4); decide(2, 4) = 2; reportOf(2, 3) = 2; reportOf(2, 4) = 4
                hunter(2, 3) = 1; hunter(2, 4) = 0; hunter(2, 2) = 2; reportOf(2, 7) = 1440
                """);
        Script.run("decide at each severity between both", DESK, """
                report(0, 0, 1); grade(0, 1); appeal(0, 4)
                decide(0, 2) = 1; undo(); decide(0, 1) = 0; undo(); decide(0, 4) = 2
                """);
    }
}
