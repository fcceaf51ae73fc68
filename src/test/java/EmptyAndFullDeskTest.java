/** Every call on an empty desk, and on one that is full of all: promises 1 to 24. */
public final class EmptyAndFullDeskTest {
    private static final int[] NUMBERS = {0, 1, -1, 5, 6, 7, 8, 39, 40, Integer.MIN_VALUE, Integer.MAX_VALUE};
    // 6 assets, 8 hunters, 40 reports, a reserve of 1000000, on day 9999.
    private static final String FULL = "addAsset(9, 0)\n".repeat(6) + "addHunter()\n".repeat(8)
            + "report(0, 0, 1); report(1, 0, 1)\n" + "report(7, 5, 99)\n".repeat(36) + "report(6, 5, 2); report(7, 5, 2)\n"
            + "pass(400)\n".repeat(24) + "pass(399)\n" + "fill(100000)\n".repeat(10);

    public static void main(String[] args) {
        lookingAtAnEmptyDesk();
        deedsOnAnEmptyDesk();
        firstDeeds();
        withoutAHunter();
        withoutAnAsset();
        withoutAReport();
        nothingMoreGoesIn();
        lookingAtAFullDesk();
        deedsOnAFullDesk();
        lastReportOfAFullDesk();
        undoneOnAFullDesk();
        Script.end();
    }

    private static void lookingAtAnEmptyDesk() {
        StringBuilder looks = new StringBuilder();
        for (int number : NUMBERS) {
            for (String call : new String[] {"asset(N, 0)", "hunter(N, 0)", "reportOf(N, 0)", "original(N)", "paidIn(N)"}) {
                looks.append(call.replace("N", "" + number)).append(" = INVALID\n");
            }
            looks.append("best(").append(number).append(number < 0 ? ") = INVALID\n" : ") = NONE\n");
        }
        for (int what = 0; what <= 16; what++) {
            looks.append("count(").append(what).append(") = 0\n");
        }
        Script.run("looking at an empty desk", looks.toString(), """
                count(-1) = INVALID; count(17) = INVALID; lack() = 0; asset(0, -1) = INVALID; hunter(0, 6) = INVALID
                reportOf(0, 13) = INVALID
                """);
    }

    private static void deedsOnAnEmptyDesk() {
        StringBuilder deeds = new StringBuilder();
        for (int number : NUMBERS) {
            for (String call : new String[] {"report(N, 0, 0)", "report(0, N, 0)", "fold(N)", "grade(N, 1)", "refuse(N)",
                "appeal(N, 2)", "decide(N, 1)", "pay(N)", "retest(N, 0, 1)", "retest(0, N, 0)"}) {
                deeds.append(call.replace("N", "" + number)).append(" = INVALID\n");
            }
        }
        Script.run("no deed on a report that is not there", deeds.toString(), "undo() = ILLEGAL; count(16) = 0");
    }

    private static void firstDeeds() {
        Script.run("what can be done first on an empty desk", """
                addAsset(1, 0) = 0; undo() = 0; addHunter() = 0; undo() = 0; fill(1) = 1; undo() = 0; setRate(50) = 100; undo() = 0
                setBonus(0) = 20; undo() = 0; pass(400) = 0; count(0) = 400; count(1) = 4; count(2) = 0; undo() = 0; undo() = ILLEGAL
                """);
    }

    private static void withoutAHunter() {
        Script.run("assets without a hunter", "addAsset(3, 30); addAsset(4, 40)\n", """
                report(0, 0, 0) = INVALID; best(0) = NONE; lack() = 0; hunter(0, 0) = INVALID; asset(1, 3) = 0; asset(1, 4) = 0
                pass(180) = 0; asset(0, 2) = 60; asset(1, 2) = 80; count(2) = 70
                """);
    }

    private static void withoutAnAsset() {
        Script.run("hunters without an asset", "addHunter(); addHunter()\n", """
                report(0, 0, 0) = INVALID; best(0) = 0; best(1) = 1; best(2) = NONE; lack() = 0; asset(0, 0) = INVALID
                pass(180) = 0; count(2) = 0; count(12) = 0; retest(0, 0, 1) = INVALID
                """);
    }

    private static void withoutAReport() {
        Script.run("assets and hunters without a report", "addAsset(3, 30); addHunter(); addHunter()\n", """
                reportOf(0, 0) = INVALID; fold(0) = INVALID; grade(0, 1) = INVALID; refuse(0) = INVALID; appeal(0, 2) = INVALID
                decide(0, 1) = INVALID; pay(0) = INVALID; retest(0, 0, 1) = INVALID; original(0) = INVALID; paidIn(0) = INVALID
                lack() = 0; hunter(0, 0) = 0; asset(0, 3) = 0; count(5) = 0
                """);
    }

    private static void nothingMoreGoesIn() {
        Script.run("nothing more goes into a full desk", FULL, """
                addAsset(1, 0) = FULL; addHunter() = FULL; report(0, 0, 0) = FULL; fill(1) = ILLEGAL; pass(1) = ILLEGAL
                count(0) = 9999; count(1) = 111; count(2) = 1000000; count(3) = 6; count(4) = 8; count(5) = 40; count(6) = 40
                count(16) = 8
                """);
    }

    private static void lookingAtAFullDesk() {
        Script.run("the last ones of a full desk", FULL, """
                asset(5, 0) = 9; asset(5, 3) = 38; asset(6, 0) = INVALID; hunter(7, 0) = 37; hunter(8, 0) = INVALID
                reportOf(39, 0) = 7; reportOf(39, 1) = 5; reportOf(39, 2) = 2; reportOf(37, 2) = 99; reportOf(40, 0) = INVALID
                original(39) = 38; original(40) = INVALID; original(37) = 2; best(7) = 7; best(8) = NONE; lack() = 0
                paidIn(39) = ILLEGAL; paidIn(40) = INVALID
                """);
    }

    private static void deedsOnAFullDesk() {
        Script.run("deeds on a full desk", FULL, """
                setRate(200) = 100; setBonus(500) = 20; fold(1) = 0; grade(0, 4) = 2880; pay(0) = 2880; count(2) = 997120
                retest(7, 0, 1) = 0; retest(6, 0, 1) = 1; count(2) = 996120; hunter(7, 1) = 500; count(14) = 1000
                fill(3881) = ILLEGAL; fill(3880) = 1000000; fill(1) = ILLEGAL; best(0) = 0; best(1) = 6; best(2) = 7; best(3) = 1
                hunter(0, 1) = 2592; hunter(1, 1) = 288
                """);
    }

    private static void lastReportOfAFullDesk() {
        Script.run("the last report of a full desk", FULL, """
                fold(39) = 38; refuse(38) = 1; original(39) = NONE; grade(39, 1) = 90; appeal(39, 4) = 1440; decide(39, 4) = 2
                pay(39) = 1440; retest(7, 39, 0) = ILLEGAL; retest(0, 39, 0) = 0; retest(6, 39, 0) = 2; reportOf(39, 3) = 0
                reportOf(39, 9) = 1440; hunter(7, 2) = 2; hunter(6, 2) = -1; hunter(0, 2) = 1; count(2) = 998520
                """);
    }

    private static void undoneOnAFullDesk() {
        Script.run("a full desk has room again when a deed is undone", "addAsset(1, 0)\n".repeat(5), "addHunter()\n".repeat(7),
                "report(0, 0, 1)\n".repeat(39), "addAsset(1, 0); addHunter(); report(0, 0, 1)\n", """
                report(0, 0, 1) = FULL; undo(); report(7, 5, 2) = 39; undo(); addHunter() = FULL; undo(); addHunter() = 7
                undo(); addAsset(2, 0) = FULL; undo(); report(7, 0, 1) = INVALID; report(0, 5, 1) = INVALID; addAsset(2, 0) = 5
                addHunter() = 7; report(7, 5, 1) = 39; addAsset(1, 0) = FULL; addHunter() = FULL; report(0, 0, 1) = FULL
                """);
    }
}
