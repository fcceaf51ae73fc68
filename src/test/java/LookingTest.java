/** Promises 17 to 20: count, asset, hunter, reportOf. */
public final class LookingTest {
    // Reports in all states: 0 paid, 1 folded, 2 refused, 3 waiting, 4 graded with an open appeal, 5 new.
    private static final String FULL_DESK = """
            addAsset(2, 100); addAsset(3, 40); addHunter(); addHunter(); addHunter(); addHunter(); fill(85)
            report(0, 0, 1); report(1, 0, 1); report(1, 0, 2); report(2, 1, 3); report(2, 0, 4); report(0, 1, 9)
            fold(1); grade(0, 2); appeal(0, 3); decide(0, 3); pay(0); refuse(2); pass(30)
            grade(3, 4); pay(3); grade(4, 1); appeal(4, 3)
            """;

    public static void main(String[] args) {
        counts();
        countsOfStates();
        assets();
        hunters();
        reports();
        reportsByState();
        Script.end();
    }

    private static void counts() {
        Script.run("count", FULL_DESK, """
                count(-1) = INVALID; count(17) = INVALID; count(MIN) = INVALID; count(MAX) = INVALID
                count(0) = 30; count(1) = 0; count(2) = 5; count(3) = 2; count(4) = 4; count(5) = 6
                count(12) = 40; count(13) = 180; count(14) = 0; count(15) = 1; count(16) = 8
                fill(70) = 75; retest(2, 0, 1) = 0; retest(3, 0, 1) = 1
                count(2) = 35; count(13) = 180; count(14) = 40
                pass(149) = 0; count(0) = 179; count(1) = 1; count(12) = 180
                pass(1) = 0; count(0) = 180; count(1) = 2; decide(4, 2) = 1; count(15) = 0
                """);
    }

    private static void countsOfStates() {
        StringBuilder run = new StringBuilder("addAsset(1, 10000); addAsset(9, 0); addHunter()\n");
        for (int i = 0; i < 21; i++) {
            int asset = i >= 3 && i < 6 ? 1 : 0;
            int flaw = i < 15 ? i : 14;
            run.append("report(0, ").append(asset).append(", ").append(flaw).append(")\n");
        }
        run.append("grade(1, 1); grade(2, 1)\n");
        for (int i = 3; i < 10; i++) {
            run.append("grade(").append(i).append(", 4); pay(").append(i).append(")\n");
        }
        for (int i = 15; i < 21; i++) {
            run.append("fold(").append(i).append(")\n");
        }
        for (int i = 10; i < 14; i++) {
            run.append("refuse(").append(i).append(")\n");
        }
        Script.run("counts of states", run.toString(), """
                count(6) = 2; count(7) = 2; count(8) = 3; count(9) = 4; count(10) = 4; count(11) = 6; count(5) = 21
                """);
    }

    private static void assets() {
        Script.run("asset", FULL_DESK, """
                asset(-1, 0) = INVALID; asset(2, 0) = INVALID; asset(MIN, 0) = INVALID; asset(MAX, 0) = INVALID
                asset(0, -1) = INVALID; asset(0, 5) = INVALID; asset(0, MIN) = INVALID; asset(0, MAX) = INVALID
                asset(0, 0) = 2; asset(0, 1) = 100; asset(0, 2) = 0; asset(0, 3) = 4; asset(0, 4) = 20
                asset(1, 0) = 3; asset(1, 1) = 40; asset(1, 2) = 40; asset(1, 3) = 2; asset(1, 4) = 480
                setRate(150); asset(0, 4) = 30; asset(1, 4) = 720; grade(5, 1) = 45; asset(1, 4) = 765
                refuse(5) = 0; asset(1, 4) = 720; asset(1, 3) = 2
                """);
        Script.run("the prices of an asset are rounded one by one", """
                addAsset(1, 0); addHunter(); setRate(59); report(0, 0, 1); report(0, 0, 2)
                grade(0, 1) = 5; grade(1, 1) = 5; asset(0, 4) = 10
                """);
    }

    private static void hunters() {
        Script.run("hunter", FULL_DESK, """
                hunter(-1, 0) = INVALID; hunter(4, 0) = INVALID; hunter(MIN, 0) = INVALID; hunter(MAX, 0) = INVALID
                hunter(0, -1) = INVALID; hunter(0, 6) = INVALID; hunter(0, MIN) = INVALID; hunter(0, MAX) = INVALID
                hunter(0, 0) = 2; hunter(0, 1) = 162; hunter(0, 2) = 5; hunter(0, 3) = 1; hunter(0, 4) = 0; hunter(0, 5) = 0
                hunter(1, 0) = 2; hunter(1, 1) = 18; hunter(1, 2) = -1; hunter(1, 3) = 0; hunter(1, 4) = 0
                hunter(2, 0) = 2; hunter(2, 1) = 0; hunter(2, 2) = 0
                hunter(3, 0) = 0; hunter(3, 1) = 0; hunter(3, 2) = 0
                decide(4, 1) = 0; hunter(2, 4) = 1; hunter(2, 3) = 0; hunter(2, 2) = -1
                fill(35) = 40; retest(2, 0, 1) = 0; retest(3, 0, 1) = 1
                hunter(2, 1) = 20; hunter(2, 2) = 0; hunter(2, 5) = 1
                hunter(3, 1) = 20; hunter(3, 2) = 1; hunter(3, 5) = 1; hunter(0, 2) = 5
                """);
    }

    private static void reports() {
        Script.run("reportOf", FULL_DESK, """
                reportOf(-1, 0) = INVALID; reportOf(6, 0) = INVALID; reportOf(MIN, 0) = INVALID; reportOf(MAX, 0) = INVALID
                reportOf(0, -1) = INVALID; reportOf(0, 13) = INVALID; reportOf(0, MIN) = INVALID; reportOf(0, MAX) = INVALID
                reportOf(3, 0) = 2; reportOf(3, 1) = 1; reportOf(3, 2) = 3; reportOf(5, 2) = 9
                reportOf(0, 6) = 1; reportOf(1, 6) = 0; reportOf(0, 9) = 180; reportOf(3, 9) = 0
                reportOf(0, 8) = 2; reportOf(3, 8) = 0; reportOf(4, 8) = 1
                retest(2, 0, 0) = 0; reportOf(0, 10) = 0; reportOf(0, 11) = 1; reportOf(0, 12) = 0
                retest(3, 0, 1) = 0; reportOf(0, 10) = 1; reportOf(0, 11) = 1; reportOf(0, 12) = 0
                """);
    }

    private static void reportsByState() {
        Script.run("reportOf by state", FULL_DESK, """
                reportOf(0, 3) = 3; reportOf(0, 4) = 3; reportOf(0, 5) = NONE; reportOf(0, 7) = 180
                reportOf(1, 3) = 5; reportOf(1, 4) = NONE; reportOf(1, 5) = 0; reportOf(1, 7) = NONE
                reportOf(2, 3) = 4; reportOf(2, 4) = NONE; reportOf(2, 5) = NONE; reportOf(2, 7) = NONE
                reportOf(3, 3) = 2; reportOf(3, 4) = 4; reportOf(3, 5) = NONE; reportOf(3, 7) = 480
                reportOf(4, 3) = 1; reportOf(4, 4) = 1; reportOf(4, 5) = NONE; reportOf(4, 7) = 20
                reportOf(5, 3) = 0; reportOf(5, 4) = NONE; reportOf(5, 5) = NONE; reportOf(5, 7) = NONE
                setRate(50); reportOf(0, 7) = 90; reportOf(0, 9) = 180; reportOf(3, 7) = 240
                """);
    }
}
