/** The boundary sentences of "Standings" and of promises 17 to 20 and 23. The titles are the sentences. */
public final class BoundsOfLooksTest {
    private static final String DESK = """
            addAsset(2, 100); addAsset(9, 0); addHunter(); addHunter(); addHunter(); addHunter()
            report(0, 0, 1); report(1, 0, 1); report(2, 1, 99)
            """;

    public static void main(String[] args) {
        countWhats();
        countsOfEach();
        assetWhats();
        assetPrices();
        hunterWhats();
        hunterOfEach();
        reportWhats();
        severityByState();
        foldedByState();
        appealsAndRetests();
        standings();
        bestIndexes();
        bestByStanding();
        bestByMoney();
        bestByNumber();
        Script.end();
    }

    private static void countWhats() {
        Script.refused("count: what 0 to 16", DESK, "count(?)", 0, 16, "INVALID");
        Script.run("the first and the last what", DESK, "pass(400) = 0; count(0) = 400; count(16) = 8; undo() = 7; count(16) = 7");
    }

    private static void countsOfEach() {
        Script.run("each count for itself", DESK, """
                count(3) = 2; count(4) = 4; count(5) = 3; count(6) = 3; count(12) = 100; fill(7); count(2) = 7
                grade(0, 1); count(6) = 2; count(7) = 1; pay(0) = 20; count(7) = 0; count(9) = 1; count(12) = 80; count(13) = 20
                fold(1); count(6) = 1; count(11) = 1; grade(2, 1); pay(2) = 0; count(8) = 1; appeal(2, 4); count(15) = 1
                decide(2, 1); count(15) = 0; refuse(2) = 0; count(8) = 0; count(10) = 1; count(14) = 0
                report(3, 1, 4); refuse(3) = 0; count(10) = 2; count(11) = 1; count(5) = 4
                setBonus(3); retest(2, 0, 1); retest(3, 0, 1) = 1; count(14) = 6; count(2) = 1; count(13) = 20; count(9) = 1
                """);
        Script.run("all that was paid so far, by a quarter and for what is new again as well", """
                addAsset(1, 5); addHunter(); addHunter(); addHunter(); report(0, 0, 1); grade(0, 1); pay(0) = 0
                count(13) = 0; pass(90) = 1; count(13) = 10; retest(1, 0, 0); retest(2, 0, 0) = 2; count(13) = 10
                grade(0, 1); pass(180); pay(0) = 10; count(13) = 20
                """);
    }

    private static void assetWhats() {
        Script.refused("asset: an asset", DESK, "asset(?, 0)", 0, 1, "INVALID");
        Script.refused("asset: what 0 to 4", DESK, "asset(1, ?)", 0, 4, "INVALID");
        Script.run("the first and the last what, of the first asset and the last", DESK, """
                grade(0, 1); grade(2, 1); asset(0, 0) = 2; asset(0, 4) = 20; asset(1, 0) = 9; asset(1, 4) = 90
                asset(0, 3) = 2; asset(1, 3) = 1; asset(0, 1) = 100; asset(1, 1) = 0; asset(0, 2) = 100; asset(1, 2) = 0
                """);
    }

    private static void assetPrices() {
        Script.run("of those that are graded or waiting, as the rate is now", DESK, """
                report(3, 1, 5); report(3, 1, 6); asset(1, 4) = 0; grade(2, 1); asset(1, 4) = 90; pay(2) = 0
                asset(1, 4) = 90; grade(3, 2); asset(1, 4) = 450; setRate(55); asset(1, 4) = 247; setRate(100)
                appeal(3, 4); asset(1, 4) = 450; decide(3, 3) = 1; asset(1, 4) = 900; asset(0, 4) = 0
                refuse(3) = 0; asset(1, 4) = 90; fill(90); pay(2) = 90; asset(1, 4) = 0; asset(1, 3) = 3
                """);
    }

    private static void hunterWhats() {
        Script.refused("hunter: a hunter", DESK, "hunter(?, 0)", 0, 3, "INVALID");
        Script.refused("hunter: what 0 to 5", DESK, "hunter(3, ?)", 0, 5, "INVALID");
        Script.run("the first and the last what, of the first hunter and the last", DESK, """
                fill(40); grade(1, 1); pay(1) = 20; retest(0, 1, 1); retest(3, 1, 1) = 1
                hunter(0, 0) = 1; hunter(0, 5) = 1; hunter(3, 0) = 0; hunter(3, 5) = 1; hunter(1, 5) = 0
                """);
    }

    private static void hunterOfEach() {
        Script.run("each property for itself", DESK, """
                report(0, 1, 3); hunter(0, 0) = 2; grade(0, 1); appeal(0, 2); decide(0, 2) = 2; hunter(0, 3) = 1; hunter(0, 4) = 0
                grade(3, 1); appeal(3, 2); decide(3, 1) = 0; hunter(0, 3) = 1; hunter(0, 4) = 1; hunter(0, 2) = 1
                pay(0) = 80; hunter(0, 1) = 80; hunter(0, 2) = 4; refuse(3); hunter(0, 2) = 2; hunter(0, 0) = 2
                fill(1000); grade(2, 1); pay(2) = 90; retest(0, 2, 1); retest(1, 2, 1) = 1; hunter(0, 1) = 100
                hunter(0, 2) = 3; hunter(0, 5) = 1; hunter(1, 1) = 20; hunter(1, 0) = 1
                """);
    }

    private static void reportWhats() {
        Script.refused("reportOf: a report", DESK, "reportOf(?, 0)", 0, 2, "INVALID");
        Script.refused("reportOf: what 0 to 12", DESK, "reportOf(2, ?)", 0, 12, "INVALID");
        Script.run("the first and the last what, of the first report and the last", DESK, """
                reportOf(0, 0) = 0; reportOf(0, 12) = 0; reportOf(2, 0) = 2; reportOf(2, 12) = 0; fill(90)
                grade(2, 1); pay(2) = 90; retest(0, 2, 1); retest(1, 2, 1) = 1; reportOf(2, 12) = 1; reportOf(0, 12) = 0
                reportOf(2, 1) = 1; reportOf(2, 2) = 99; reportOf(2, 10) = 2; reportOf(2, 11) = 0
                """);
    }

    private static void severityByState() {
        Script.run("severity and price are NONE if it is not graded, waiting or paid", DESK, """
                reportOf(2, 4) = NONE; reportOf(2, 7) = NONE; grade(2, 2); reportOf(2, 4) = 2; reportOf(2, 7) = 360
                pay(2) = 0; reportOf(2, 4) = 2; reportOf(2, 7) = 360; fill(360); pay(2) = 360
                reportOf(2, 4) = 2; reportOf(2, 7) = 360; retest(0, 2, 0); retest(1, 2, 0) = 2
                reportOf(2, 4) = NONE; reportOf(2, 7) = NONE; grade(2, 1); refuse(2); reportOf(2, 4) = NONE; reportOf(2, 7) = NONE
                fold(1); reportOf(1, 4) = NONE; reportOf(1, 7) = NONE
                """);
    }

    private static void foldedByState() {
        Script.run("the report into which it is folded is NONE if it is not", DESK, """
                reportOf(0, 5) = NONE; reportOf(1, 5) = NONE; fold(1); reportOf(0, 5) = NONE; reportOf(1, 5) = 0
                reportOf(0, 6) = 1; reportOf(1, 6) = 0; reportOf(2, 6) = 0; grade(0, 1); reportOf(0, 6) = 1
                pay(0) = 20; reportOf(0, 6) = 1; reportOf(1, 9) = 0; retest(2, 0, 0); retest(3, 0, 0) = 2
                reportOf(0, 6) = 0; reportOf(1, 5) = NONE; reportOf(1, 3) = 0
                """);
    }

    private static void appealsAndRetests() {
        Script.run("8: 0 if there is no appeal, 1 if it is open and 2 if it is decided", DESK, """
                reportOf(0, 8) = 0; grade(0, 1); reportOf(0, 8) = 0; appeal(0, 2); reportOf(0, 8) = 1
                decide(0, 1); reportOf(0, 8) = 2; pay(0) = 20; reportOf(0, 8) = 2; reportOf(2, 8) = 0
                """);
        Script.run("9: what was paid for it last (0 if nothing was)", DESK, """
                reportOf(2, 9) = 0; grade(2, 1); reportOf(2, 9) = 0; pay(2) = 0; reportOf(2, 9) = 0; fill(90)
                pay(2) = 90; reportOf(2, 9) = 90; setRate(50); reportOf(2, 9) = 90; reportOf(2, 7) = 45
                """);
    }

    private static void standings() {
        Script.run("3 for each that is paid, nothing for one that is new, graded or waiting", DESK, """
                hunter(2, 2) = 0; grade(2, 1); hunter(2, 2) = 0; pay(2) = 0; hunter(2, 2) = 0; fill(1000)
                pay(2) = 90; hunter(2, 2) = 3; report(2, 1, 2); grade(3, 1); pay(3) = 90; hunter(2, 2) = 6
                """);
        Script.run("1 for each that is folded", DESK, """
                fold(1); hunter(1, 2) = 1; hunter(0, 2) = 0; report(1, 0, 1); fold(3) = 0; hunter(1, 2) = 2
                refuse(0) = 2; hunter(1, 2) = 0
                """);
        Script.run("-2 for each that is refused", DESK, """
                refuse(0) = 0; hunter(0, 2) = -2; report(0, 0, 7); refuse(3); hunter(0, 2) = -4; hunter(1, 2) = 0
                """);
        Script.run("2 for each appeal that was won, -1 for each that was lost, 0 for the others", DESK, """
                report(0, 1, 5); report(0, 1, 6); grade(0, 1); grade(3, 1); grade(4, 1); appeal(0, 3); appeal(3, 3)
                hunter(0, 2) = 0; decide(0, 3) = 2; hunter(0, 2) = 2; decide(3, 1) = 0; hunter(0, 2) = 1
                appeal(4, 3); decide(4, 2) = 1; hunter(0, 2) = 1
                """);
        Script.run("1 for each bonus", DESK, """
                fill(200); grade(2, 1); pay(2) = 90; retest(0, 2, 1) = 0; hunter(0, 2) = 0; retest(3, 2, 1) = 1
                hunter(0, 2) = 1; hunter(3, 2) = 1; hunter(2, 2) = 3; hunter(1, 2) = 0
                """);
    }

    private static void bestIndexes() {
        Script.refused("best: INVALID_ARGUMENT if index is negative", DESK, "best(?)", 0, Integer.MAX_VALUE, "INVALID");
        Script.run("NONE if there are not so many", "best(-1) = INVALID; best(0) = NONE; best(1) = NONE; best(MAX) = NONE");
        Script.run("one hunter", "addHunter(); best(0) = 0; best(1) = NONE; best(2) = NONE; best(MAX) = NONE; best(MIN) = INVALID");
        Script.run("eight hunters", "addHunter()\n".repeat(8), """
                best(0) = 0; best(1) = 1; best(6) = 6; best(7) = 7; best(8) = NONE; best(9) = NONE; best(40) = NONE
                """);
    }

    private static void bestByStanding() {
        Script.run("the greatest standing first, whatever the money", DESK, """
                grade(1, 1); pay(1) = 20; best(0) = 1; best(1) = 0; best(2) = 2; best(3) = 3; best(4) = NONE
                report(3, 1, 7); report(3, 1, 8); fill(10); grade(3, 1); appeal(3, 2); decide(3, 2) = 2
                grade(4, 1); appeal(4, 2); decide(4, 2) = 2; hunter(3, 2) = 4; hunter(3, 1) = 0
                best(0) = 3; best(1) = 1; best(2) = 0; best(3) = 2
                """);
        Script.run("below 0 behind 0", DESK, """
                grade(0, 1); appeal(0, 2); decide(0, 1) = 0; refuse(2) = 0; hunter(0, 2) = -1; hunter(2, 2) = -2
                best(0) = 1; best(1) = 3; best(2) = 0; best(3) = 2; best(4) = NONE
                """);
        Script.run("1 more is enough", DESK, """
                fold(1) = 0; hunter(1, 2) = 1; best(0) = 1; best(1) = 0; best(2) = 2; best(3) = 3
                """);
    }

    private static void bestByMoney() {
        Script.run("of the same standing the one who got more money", """
                addAsset(1, 1000); addHunter(); addHunter(); addHunter(); report(0, 0, 1); report(1, 0, 2); report(2, 0, 3)
                grade(0, 1); grade(1, 1); grade(2, 1); pay(0) = 10; setRate(110); pay(1) = 11; pay(2) = 11
                best(0) = 1; best(1) = 2; best(2) = 0
                """);
        Script.run("bonuses included", """
                addAsset(1, 1000); addHunter(); addHunter(); addHunter(); addHunter(); fill(1000); setBonus(1)
                report(1, 0, 1); report(3, 0, 1); fold(1) = 0; grade(0, 1); pay(0) = 10; best(0) = 1; best(1) = 3
                retest(0, 0, 1) = 0; retest(2, 0, 1) = 1; hunter(0, 2) = 1; hunter(3, 2) = 1
                best(1) = 0; best(2) = 2; best(3) = 3; undo(); undo(); setBonus(0); retest(0, 0, 1); retest(2, 0, 1) = 1
                best(1) = 3; best(2) = 0; best(3) = 2
                """);
    }

    private static void bestByNumber() {
        Script.run("then the smallest number", """
                addAsset(1, 1000); addHunter(); addHunter(); addHunter(); report(2, 0, 1); report(1, 0, 2)
                best(0) = 0; best(1) = 1; best(2) = 2; grade(0, 1); grade(1, 1); pay(0) = 10; pay(1) = 10
                best(0) = 1; best(1) = 2; best(2) = 0
                """);
    }
}
