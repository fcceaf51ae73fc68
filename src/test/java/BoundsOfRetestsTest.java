/** The boundary sentences of "Retests" and of promise 14. The titles are the sentences. */
public final class BoundsOfRetestsTest {
    private static final String NEW = """
            addAsset(1, 100); addHunter(); addHunter(); addHunter(); addHunter(); addHunter()
            report(0, 0, 1); report(1, 0, 1); report(2, 0, 2)
            """;
    private static final String PAID = NEW + "grade(0, 1); pay(0)\n";

    public static void main(String[] args) {
        arguments();
        ends();
        onlyPaidOnes();
        whoHasReportedIt();
        whoHasNotReportedIt();
        onceForEachReport();
        twoThatTellTheSame();
        threeRetests();
        closedAsGone();
        bonusOfEverySize();
        noBonusForTheOther();
        newAgain();
        newAgainWithoutRetests();
        Script.end();
    }

    private static void arguments() {
        Script.refused("hunter: a hunter", PAID, "retest(?, 0, 1)", 0, 4, "INVALID");
        Script.refused("report: a report", PAID, "retest(4, ?, 1)", 0, 2, "INVALID");
        Script.refused("isGone: 1 or 0", PAID, "retest(4, 0, ?)", 0, 1, "INVALID");
        Script.run("nobody and nothing on an empty desk", """
                retest(0, 0, 1) = INVALID; retest(0, 0, 0) = INVALID; addHunter(); retest(0, 0, 1) = INVALID
                """);
    }

    private static void ends() {
        Script.run("the first hunter and the last report", NEW, """
                grade(2, 1); pay(2) = 10; retest(0, 2, 1) = 0; reportOf(2, 10) = 1; reportOf(2, 11) = 0
                retest(4, 2, 0) = 0; reportOf(2, 10) = 1; reportOf(2, 11) = 1
                """);
        Script.run("the eighth hunter and report 39", "addAsset(1, 100)\n", "addHunter()\n".repeat(8),
                "report(0, 0, 1)\n".repeat(40), """
                grade(39, 1); pay(39) = 10; retest(8, 39, 1) = INVALID; retest(7, 40, 1) = INVALID
                retest(7, 39, 1) = 0; retest(7, 39, 1) = ILLEGAL; retest(6, 39, 1) = 1; hunter(7, 5) = 0
                undo(); fill(40); retest(6, 39, 1) = 1; hunter(7, 5) = 1; hunter(7, 1) = 20; hunter(6, 5) = 1
                """);
    }

    private static void onlyPaidOnes() {
        Script.run("not a new one", NEW, "retest(4, 0, 1) = ILLEGAL; retest(4, 0, 0) = ILLEGAL");
        Script.run("not a graded one", NEW, "grade(0, 1); retest(4, 0, 1) = ILLEGAL; retest(4, 0, 0) = ILLEGAL");
        Script.run("not a waiting one", NEW, "grade(0, 4); pay(0) = 0; retest(4, 0, 1) = ILLEGAL; retest(4, 0, 0) = ILLEGAL");
        Script.run("not a refused one", NEW, "refuse(0); retest(4, 0, 1) = ILLEGAL; retest(4, 0, 0) = ILLEGAL");
        Script.run("not a folded one", PAID, "fold(1) = 0; retest(4, 1, 1) = ILLEGAL; retest(4, 1, 0) = ILLEGAL");
        Script.run("a paid one", PAID, "retest(4, 0, 1) = 0; undo(); retest(4, 0, 0) = 0");
        Script.run("one that was paid as a quarter began", NEW, """
                grade(0, 4); pay(0) = 0; pass(90) = 1; retest(4, 0, 1) = 0
                """);
    }

    private static void whoHasReportedIt() {
        Script.run("not the hunter of the report itself", PAID, "retest(0, 0, 1) = ILLEGAL; retest(0, 0, 0) = ILLEGAL");
        Script.run("not the hunter of one that is folded into it", PAID, """
                fold(1) = 0; retest(1, 0, 1) = ILLEGAL; retest(1, 0, 0) = ILLEGAL
                """);
        Script.run("not the hunter of the last one that is folded into it", PAID, "report(3, 0, 5)\n".repeat(36), """
                report(4, 0, 1) = 39; fold(39) = 0; retest(4, 0, 1) = ILLEGAL; retest(3, 0, 1) = 0
                """);
    }

    private static void whoHasNotReportedIt() {
        Script.run("the hunter of one that tells the same, but is not folded", PAID, """
                retest(1, 0, 1) = 0; fold(1) = 0; retest(1, 0, 1) = ILLEGAL; retest(4, 0, 1) = 1
                """);
        Script.run("the hunter of one that is folded into another one", PAID, """
                report(3, 0, 2); fold(3) = 2; retest(3, 0, 1) = 0; retest(2, 0, 1) = 1
                """);
        Script.run("the hunter of a refused one", PAID, "refuse(1); retest(1, 0, 1) = 0");
        Script.run("the hunter of one that is not folded any longer", PAID, """
                fold(1) = 0; retest(2, 0, 0); retest(3, 0, 0) = 2; grade(0, 1); pay(0) = 10; retest(1, 0, 1) = 0
                """);
    }

    private static void onceForEachReport() {
        Script.run("each hunter once, with the same or the other answer", PAID, """
                retest(3, 0, 1) = 0; retest(3, 0, 1) = ILLEGAL; retest(3, 0, 0) = ILLEGAL; reportOf(0, 10) = 1
                retest(4, 0, 0) = 0; retest(4, 0, 0) = ILLEGAL; retest(4, 0, 1) = ILLEGAL; reportOf(0, 11) = 1
                """);
        Script.run("once for each report", PAID, """
                grade(2, 1); pay(2) = 10; retest(3, 0, 1) = 0; retest(3, 2, 1) = 0
                reportOf(0, 10) = 1; reportOf(2, 10) = 1; retest(3, 2, 1) = ILLEGAL
                """);
        Script.run("a refused retest is none", PAID, """
                retest(3, 0, 2) = INVALID; retest(3, 1, 1) = ILLEGAL; reportOf(0, 10) = 0; retest(3, 0, 1) = 0
                """);
    }

    private static void twoThatTellTheSame() {
        Script.run("one does not close it", PAID, """
                retest(3, 0, 1) = 0; reportOf(0, 12) = 0; reportOf(0, 3) = 3; undo(); retest(3, 0, 0) = 0; reportOf(0, 3) = 3
                """);
        Script.run("two close it as gone", PAID, """
                retest(3, 0, 1) = 0; retest(4, 0, 1) = 1; reportOf(0, 12) = 1; reportOf(0, 3) = 3; reportOf(0, 10) = 2
                reportOf(0, 4) = 1; reportOf(0, 7) = 10; reportOf(0, 9) = 10; hunter(0, 2) = 3
                """);
        Script.run("two close it as still there", PAID, """
                retest(3, 0, 0) = 0; retest(4, 0, 0) = 2; reportOf(0, 12) = 0; reportOf(0, 3) = 0; hunter(0, 2) = 0
                """);
    }

    private static void threeRetests() {
        Script.run("two that tell otherwise don't close it, a third does", PAID, """
                retest(3, 0, 1) = 0; retest(4, 0, 0) = 0; reportOf(0, 10) = 1; reportOf(0, 11) = 1; reportOf(0, 12) = 0
                retest(2, 0, 1) = 1; reportOf(0, 10) = 2; reportOf(0, 11) = 1; undo()
                retest(2, 0, 0) = 2; reportOf(0, 10) = 0; reportOf(0, 11) = 0; reportOf(0, 3) = 0
                """);
        Script.run("in the other order", PAID, """
                retest(3, 0, 0) = 0; retest(4, 0, 1) = 0; retest(2, 0, 0) = 2; undo(); retest(2, 0, 1) = 1
                """);
    }

    private static void closedAsGone() {
        Script.run("no retest of what is closed as gone", PAID, """
                retest(3, 0, 1) = 0; retest(4, 0, 1) = 1; retest(2, 0, 1) = ILLEGAL; retest(2, 0, 0) = ILLEGAL
                retest(3, 0, 1) = ILLEGAL; retest(0, 0, 1) = ILLEGAL; retest(2, 0, 2) = INVALID; retest(5, 0, 1) = INVALID
                """);
        Script.run("it stays closed, and paid", PAID, """
                retest(3, 0, 1); retest(4, 0, 1) = 1; pay(0) = ILLEGAL; grade(0, 1) = ILLEGAL; refuse(0) = ILLEGAL
                appeal(0, 4) = ILLEGAL; pass(400) = 0; reportOf(0, 12) = 1; reportOf(0, 3) = 3
                """);
    }

    /** Each bonus by a reserve of 1 less than does for both, by just so much, and by 1 more. */
    private static void bonusOfEverySize() {
        int[] bonuses = {0, 1, 2, 19, 20, 499, 500};
        for (int bonus : bonuses) {
            for (int reserve = Math.max(0, 2 * bonus - 1); reserve <= 2 * bonus + 1; reserve++) {
                bonusFrom(bonus, reserve, 1);
                bonusFrom(bonus, reserve, 0);
            }
        }
        bonusFrom(500, 500, 1);
        bonusFrom(20, 0, 0);
    }

    private static void bonusFrom(int bonus, int reserve, int isGone) {
        boolean does = reserve >= 2 * bonus;
        int each = does ? bonus : 0;
        StringBuilder run = new StringBuilder(PAID).append("setBonus(").append(bonus).append(")\n");
        if (reserve > 0) {
            run.append("fill(").append(reserve).append(")\n");
        }
        run.append("retest(3, 0, ").append(isGone).append(") = 0; hunter(3, 5) = 0\n");
        run.append("retest(4, 0, ").append(isGone).append(") = ").append(isGone == 1 ? 1 : 2).append('\n');
        for (int hunter = 3; hunter <= 4; hunter++) {
            run.append("hunter(").append(hunter).append(", 1) = ").append(each).append('\n');
            run.append("hunter(").append(hunter).append(", 5) = ").append(does ? 1 : 0).append('\n');
            run.append("hunter(").append(hunter).append(", 2) = ").append(does ? 1 : 0).append('\n');
        }
        run.append("count(2) = ").append(reserve - 2 * each).append("; count(14) = ").append(2 * each);
        run.append("; asset(0, 2) = 90; hunter(0, 1) = 10; hunter(0, 5) = 0; count(13) = 10\n");
        Script.run("a bonus of " + bonus + " from a reserve of " + reserve, run.toString());
    }

    private static void noBonusForTheOther() {
        Script.run("those whose retest told this get a bonus", PAID, """
                fill(1000); retest(2, 0, 0) = 0; retest(3, 0, 1) = 0; retest(4, 0, 1) = 1
                hunter(2, 5) = 0; hunter(2, 1) = 0; hunter(3, 5) = 1; hunter(4, 5) = 1; count(2) = 960
                """);
        Script.run("also as still there", PAID, """
                fill(1000); retest(2, 0, 1) = 0; retest(3, 0, 0) = 0; retest(4, 0, 0) = 2
                hunter(2, 5) = 0; hunter(2, 1) = 0; hunter(3, 5) = 1; hunter(4, 1) = 20; count(2) = 960; count(14) = 40
                """);
        Script.run("not from a pool", "addAsset(9, 10000)\n", PAID, """
                asset(0, 2) = 9910; retest(3, 0, 1) = 0; retest(4, 0, 1) = 1; hunter(3, 5) = 0; asset(0, 2) = 9910
                """);
    }

    private static void newAgain() {
        Script.run("new again, with no severity, no appeal and no retests", NEW, """
                grade(0, 1); appeal(0, 2); decide(0, 2) = 2; pay(0) = 40; retest(2, 0, 1) = 0
                retest(3, 0, 0) = 0; retest(4, 0, 0) = 2
                reportOf(0, 3) = 0; reportOf(0, 4) = NONE; reportOf(0, 7) = NONE; reportOf(0, 8) = 0
                reportOf(0, 10) = 0; reportOf(0, 11) = 0; reportOf(0, 12) = 0; reportOf(0, 5) = NONE
                reportOf(0, 0) = 0; reportOf(0, 1) = 0; reportOf(0, 2) = 1
                """);
        Script.run("what was paid stays told when the report is new again", PAID, """
                retest(3, 0, 0); retest(4, 0, 0) = 2; reportOf(0, 9) = 10; count(13) = 10; hunter(0, 1) = 10
                asset(0, 2) = 90; grade(0, 2); reportOf(0, 9) = 10; pay(0) = 40; reportOf(0, 9) = 40
                """);
        Script.run("what was paid stays told when the report waits, or is refused then", PAID, """
                retest(3, 0, 0); retest(4, 0, 0) = 2; setRate(200); grade(0, 4) = 320; reportOf(0, 9) = 10
                pay(0) = 0; reportOf(0, 3) = 2; reportOf(0, 9) = 10; refuse(0) = 0; reportOf(0, 3) = 4
                reportOf(0, 9) = 10; reportOf(0, 7) = NONE; count(13) = 10; hunter(0, 1) = 10; hunter(0, 2) = -2
                """);
        Script.run("a hunter's appeals and bonuses stay", NEW, """
                fill(40); grade(0, 1); appeal(0, 2); decide(0, 2); pay(0) = 40; retest(3, 0, 0); retest(4, 0, 0) = 2
                hunter(0, 3) = 1; hunter(0, 2) = 2; hunter(3, 5) = 1; hunter(3, 2) = 1; hunter(3, 1) = 20
                """);
    }

    private static void newAgainWithoutRetests() {
        Script.run("not retested before it is paid again", PAID, """
                retest(3, 0, 0); retest(4, 0, 0) = 2; retest(2, 0, 1) = ILLEGAL; retest(3, 0, 1) = ILLEGAL
                """);
        Script.run("retested anew when it is paid again", PAID, """
                retest(3, 0, 0); retest(4, 0, 0) = 2; grade(0, 1); pay(0) = 10
                retest(3, 0, 0) = 0; retest(3, 0, 1) = ILLEGAL; retest(4, 0, 0) = 2; reportOf(0, 3) = 0
                """);
        Script.run("again and again", "fill(200); setBonus(30)\n", PAID, """
                retest(3, 0, 0); retest(4, 0, 0) = 2; grade(0, 2); pay(0) = 40; retest(4, 0, 0); retest(3, 0, 0) = 2
                grade(0, 1); pay(0) = 10; retest(3, 0, 1); retest(4, 0, 1) = 1
                hunter(3, 5) = 3; hunter(4, 1) = 90; count(14) = 180; count(2) = 20; hunter(0, 1) = 60; count(13) = 60
                """);
    }
}
