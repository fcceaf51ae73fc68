/** The boundary sentences of "Reports" and of promises 7, 8, 10 and 21. The titles are the sentences. */
public final class BoundsOfReportsTest {
    private static final String DESK = """
            addAsset(2, 100); addAsset(9, 0); addHunter(); addHunter(); addHunter()
            """;
    private static final String TWO_REPORTS = DESK + "report(0, 0, 1); report(1, 0, 1)\n";

    public static void main(String[] args) {
        reportArguments();
        mostReports();
        numberedForGood();
        theSameThing();
        earlier();
        statesOfTheEarlierOne();
        refusedOrFoldedEarlierOnes();
        theSmallestNumber();
        onlyNewOnesAreFolded();
        noSuchReport();
        refusable();
        notRefusable();
        openAppealKeepsFromRefusal();
        numberThatIsNewAgain();
        newAgainWhenNewAgain();
        foldedAgain();
        Script.end();
    }

    private static void reportArguments() {
        Script.refused("hunter: a hunter", DESK, "report(?, 0, 5)", 0, 2, "INVALID");
        Script.refused("asset: an asset", DESK, "report(0, ?, 5)", 0, 1, "INVALID");
        Script.refused("flaw: 0 to 99", DESK, "report(0, 0, ?)", 0, 99, "INVALID");
        Script.run("the first and the last hunter, asset and flaw are taken", DESK, """
                report(0, 0, 0) = 0; report(2, 1, 99) = 1; report(1, 0, 1) = 2; report(0, 1, 98) = 3
                reportOf(0, 0) = 0; reportOf(0, 1) = 0; reportOf(0, 2) = 0; reportOf(0, 3) = 0
                reportOf(1, 0) = 2; reportOf(1, 1) = 1; reportOf(1, 2) = 99; reportOf(2, 2) = 1; reportOf(3, 2) = 98
                """);
        Script.run("no asset, no report", "addHunter(); report(0, 0, 0) = INVALID");
        Script.run("no hunter, no report", "addAsset(1, 1); report(0, 0, 0) = INVALID");
        Script.run("the sixth asset and the eighth hunter", "addAsset(1, 1)\n".repeat(6), "addHunter()\n".repeat(8), """
                report(8, 5, 0) = INVALID; report(7, 6, 0) = INVALID; report(7, 5, 0) = 0
                reportOf(0, 0) = 7; reportOf(0, 1) = 5; asset(5, 3) = 1; hunter(7, 0) = 1
                """);
    }

    private static void mostReports() {
        Script.run("at most 40 reports, numbered from 0", DESK, "reportOf(0, 0) = INVALID; report(0, 0, 0) = 0\n",
                "report(0, 0, 0)\n".repeat(37), """
                report(1, 0, 0) = 38; reportOf(39, 0) = INVALID; report(2, 1, 3) = 39; reportOf(39, 0) = 2
                report(0, 0, 0) = FULL; report(2, 1, 99) = FULL; count(5) = 40; reportOf(40, 0) = INVALID
                undo() = 7; report(1, 1, 4) = 39; reportOf(39, 2) = 4; report(0, 0, 0) = FULL
                """);
        Script.run("refused and folded ones keep their room", DESK, "report(0, 0, 0)\n".repeat(40), """
                refuse(0) = 0; fold(39) = 1; report(0, 0, 0) = FULL; count(5) = 40
                """);
    }

    private static void numberedForGood() {
        Script.run("numbered for good", DESK, """
                report(0, 0, 1) = 0; report(1, 0, 1) = 1; fold(1) = 0; refuse(0) = 1; report(2, 1, 3) = 2
                reportOf(0, 0) = 0; reportOf(1, 0) = 1; reportOf(2, 0) = 2; count(5) = 3
                """);
    }

    private static void theSameThing() {
        Script.run("for the same asset with the same flaw", DESK, """
                report(0, 0, 0); report(0, 1, 0); report(0, 0, 1); original(1) = NONE; original(2) = NONE
                fold(1) = ILLEGAL; fold(2) = ILLEGAL
                report(1, 0, 0); original(3) = 0; report(2, 1, 0); original(4) = 1; report(0, 0, 1); original(5) = 2
                report(0, 0, 99); original(6) = NONE; report(0, 0, 99); original(7) = 6; fold(7) = 6; fold(3) = 0
                """);
        Script.run("a hunter's own earlier report counts as well", DESK, """
                report(0, 0, 1); report(0, 0, 1); original(1) = 0; fold(1) = 0
                """);
    }

    private static void earlier() {
        Script.run("an earlier one (one with a smaller number)", TWO_REPORTS, """
                original(0) = NONE; fold(0) = ILLEGAL; original(1) = 0; fold(1) = 0; original(0) = NONE; fold(0) = ILLEGAL
                """);
        Script.run("the first and the last number", DESK, "report(0, 0, 1)\n", "report(0, 0, 2)\n".repeat(37), """
                report(1, 0, 3) = 38; report(1, 0, 1) = 39
                original(39) = 0; fold(39) = 0; reportOf(0, 6) = 1; undo() = 7
                undo() = 6; report(1, 0, 3) = 39; original(39) = 38; fold(39) = 38; reportOf(39, 5) = 38
                """);
    }

    private static void statesOfTheEarlierOne() {
        Script.run("into a new one", TWO_REPORTS, "reportOf(0, 3) = 0; original(1) = 0; fold(1) = 0");
        Script.run("into a graded one", TWO_REPORTS, "grade(0, 1) = 20; original(1) = 0; fold(1) = 0");
        Script.run("into one with an open appeal", TWO_REPORTS, """
                grade(0, 1) = 20; appeal(0, 2) = 80; original(1) = 0; fold(1) = 0; reportOf(0, 8) = 1
                """);
        Script.run("into a waiting one", TWO_REPORTS, """
                grade(0, 4) = 320; pay(0) = 0; original(1) = 0; fold(1) = 0; reportOf(0, 3) = 2
                """);
        Script.run("into a paid one as well", TWO_REPORTS, """
                grade(0, 1) = 20; pay(0) = 20; original(1) = 0; fold(1) = 0; reportOf(0, 3) = 3; reportOf(0, 6) = 1
                """);
        Script.run("into a paid one that is closed as gone", TWO_REPORTS, """
                grade(0, 1) = 20; pay(0) = 20; retest(1, 0, 1) = 0; retest(2, 0, 1) = 1
                original(1) = 0; fold(1) = 0; reportOf(0, 12) = 1
                """);
        Script.run("into one that is new again", TWO_REPORTS, """
                grade(0, 1) = 20; pay(0) = 20; retest(1, 0, 0) = 0; retest(2, 0, 0) = 2; original(1) = 0; fold(1) = 0
                """);
    }

    private static void refusedOrFoldedEarlierOnes() {
        Script.run("not into a refused one", TWO_REPORTS, "refuse(0) = 0; original(1) = NONE; fold(1) = ILLEGAL");
        Script.run("not into a folded one", TWO_REPORTS, """
                report(2, 0, 1); fold(1) = 0; original(2) = 0; fold(2) = 0; reportOf(1, 6) = 0; reportOf(0, 6) = 2
                """);
        Script.run("past several refused ones", TWO_REPORTS, """
                report(2, 0, 1); report(2, 0, 1); refuse(0) = 0; refuse(1) = 0; original(2) = NONE; original(3) = 2
                fold(2) = ILLEGAL; fold(3) = 2
                """);
    }

    private static void theSmallestNumber() {
        Script.run("into the one of these with the smallest number", TWO_REPORTS, """
                report(2, 0, 1); report(2, 0, 1); grade(1, 1) = 20; original(2) = 0; original(3) = 0
                fold(3) = 0; grade(0, 1) = 20; pay(0) = 20; original(2) = 0; fold(2) = 0
                """);
    }

    private static void onlyNewOnesAreFolded() {
        Script.run("a graded one can't be folded", TWO_REPORTS, "grade(1, 1) = 20; original(1) = NONE; fold(1) = ILLEGAL");
        Script.run("a waiting one can't be folded", TWO_REPORTS, """
                grade(1, 4); pay(1) = 0; original(1) = NONE; fold(1) = ILLEGAL
                """);
        Script.run("a paid one can't be folded", TWO_REPORTS, """
                grade(1, 1); pay(1) = 20; original(1) = NONE; fold(1) = ILLEGAL
                """);
        Script.run("a refused one can't be folded", TWO_REPORTS, "refuse(1) = 0; original(1) = NONE; fold(1) = ILLEGAL");
        Script.run("a folded one can't be folded again", TWO_REPORTS, "fold(1) = 0; original(1) = NONE; fold(1) = ILLEGAL");
    }

    private static void noSuchReport() {
        Script.run("no report on an empty desk", """
                fold(0) = INVALID; original(0) = INVALID; refuse(0) = INVALID; fold(-1) = INVALID; original(-1) = INVALID
                """);
        Script.refused("fold: a report", TWO_REPORTS, "fold(?)", 0, 1, "INVALID");
        Script.refused("original: a report", TWO_REPORTS, "original(?)", 0, 1, "INVALID");
        Script.refused("refuse: a report", TWO_REPORTS, "refuse(?)", 0, 1, "INVALID");
        Script.run("the last report", TWO_REPORTS, "original(1) = 0; fold(1) = 0; undo(); refuse(1) = 0");
    }

    private static void refusable() {
        Script.run("a new one can be refused", TWO_REPORTS, "refuse(0) = 0; reportOf(0, 3) = 4; refuse(1) = 0");
        Script.run("a graded one can be refused", TWO_REPORTS, """
                grade(0, 1); refuse(0) = 0; reportOf(0, 3) = 4; reportOf(0, 4) = NONE; reportOf(0, 7) = NONE; asset(0, 4) = 0
                """);
        Script.run("a waiting one can be refused, and is never paid then", TWO_REPORTS, """
                grade(0, 4); pay(0) = 0; refuse(0) = 0; reportOf(0, 3) = 4; fill(1000); pass(400) = 0; pay(0) = ILLEGAL
                """);
    }

    private static void notRefusable() {
        Script.run("a paid one can't be refused", TWO_REPORTS, "grade(0, 1); pay(0) = 20; refuse(0) = ILLEGAL");
        Script.run("one that is closed as gone can't be refused", TWO_REPORTS, """
                grade(0, 1); pay(0) = 20; retest(1, 0, 1); retest(2, 0, 1) = 1; refuse(0) = ILLEGAL
                """);
        Script.run("a refused one can't be refused again", TWO_REPORTS, "refuse(0) = 0; refuse(0) = ILLEGAL");
        Script.run("a folded one can't be refused", TWO_REPORTS, "fold(1) = 0; refuse(1) = ILLEGAL; reportOf(1, 5) = 0");
    }

    private static void openAppealKeepsFromRefusal() {
        Script.run("not with an open appeal, but with a decided one", TWO_REPORTS, """
                grade(0, 1); appeal(0, 2); refuse(0) = ILLEGAL; decide(0, 1) = 0; refuse(0) = 0
                """);
        Script.run("not with an open appeal while it waits", TWO_REPORTS, """
                grade(0, 3); pay(0) = 0; appeal(0, 4); refuse(0) = ILLEGAL; decide(0, 4) = 2; refuse(0) = 0
                """);
        Script.run("an open appeal for another one does not matter", TWO_REPORTS, """
                grade(0, 1); appeal(0, 2); refuse(1) = 0
                """);
    }

    private static void numberThatIsNewAgain() {
        Script.run("none is new again", TWO_REPORTS, "refuse(0) = 0; reportOf(1, 3) = 0");
        Script.run("one is new again", TWO_REPORTS, """
                fold(1) = 0; refuse(0) = 1; reportOf(1, 3) = 0; reportOf(1, 5) = NONE; reportOf(0, 6) = 0; count(11) = 0
                """);
        Script.run("those of another one stay folded", TWO_REPORTS, """
                report(0, 1, 1); report(1, 1, 1); report(2, 1, 1); fold(1); fold(3) = 2; fold(4) = 2
                refuse(0) = 1; reportOf(3, 5) = 2; reportOf(4, 5) = 2; count(11) = 2; refuse(2) = 2
                """);
        StringBuilder folds = new StringBuilder("report(0, 0, 1)\n".repeat(40));
        for (int i = 1; i < 40; i++) {
            folds.append("fold(").append(i).append(")\n");
        }
        Script.run("39 are new again", DESK, folds.toString(), """
                count(11) = 39; reportOf(0, 6) = 39; refuse(0) = 39; count(6) = 39; count(11) = 0; reportOf(0, 6) = 0
                original(1) = NONE; original(39) = 1; reportOf(39, 5) = NONE
                """);
    }

    private static void newAgainWhenNewAgain() {
        Script.run("the same holds when a report becomes new again", DESK, """
                report(0, 0, 1); report(0, 0, 1); report(0, 0, 2); report(0, 0, 2); report(0, 0, 1)
                fold(1); fold(3); fold(4) = 0; grade(0, 1); pay(0); retest(1, 0, 0) = 0; reportOf(0, 6) = 2
                retest(2, 0, 0) = 2; reportOf(0, 3) = 0; reportOf(1, 3) = 0; reportOf(4, 3) = 0; reportOf(3, 3) = 5
                reportOf(0, 6) = 0; reportOf(1, 5) = NONE; reportOf(4, 5) = NONE; reportOf(3, 5) = 2; count(11) = 1
                """);
        Script.run("closed as gone, the folded ones stay folded", TWO_REPORTS, """
                addHunter(); fold(1); grade(0, 1); pay(0) = 20; retest(3, 0, 1); retest(2, 0, 1) = 1
                reportOf(1, 3) = 5; reportOf(0, 6) = 1
                """);
    }

    private static void foldedAgain() {
        Script.run("what is new again can be folded, graded or refused", TWO_REPORTS, """
                report(2, 0, 1); report(2, 0, 1); fold(1); fold(2); fold(3); refuse(0) = 3
                original(1) = NONE; fold(1) = ILLEGAL; original(2) = 1; fold(2) = 1; grade(1, 2) = 80; refuse(3) = 0
                refuse(1) = 1; reportOf(2, 3) = 0; original(2) = NONE; grade(2, 1) = 20
                """);
    }
}
