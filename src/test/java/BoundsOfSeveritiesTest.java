/** The boundary sentences of "Severities and prices" and of promises 9, 11 and 12. The titles are the sentences. */
public final class BoundsOfSeveritiesTest {
    private static final int[] RATES = {50, 51, 55, 59, 99, 100, 101, 149, 199, 200};
    private static final String DESK = """
            addAsset(1, 100); addAsset(9, 0); addHunter(); addHunter(); addHunter(); addHunter()
            report(0, 0, 1); report(1, 0, 1); report(2, 1, 2)
            """;

    public static void main(String[] args) {
        severities();
        prices();
        rateWhenItIsPaid();
        onlyNewOnesAreGraded();
        claims();
        claimGreaterThanTheOneSet();
        whenAnAppealIsPossible();
        onceForEachReport();
        onceWhateverIsDecided();
        decideArguments();
        decideBetweenBoth();
        whoWins();
        noOpenAppeal();
        openAppealAndPaying();
        Script.end();
    }

    private static void severities() {
        Script.refused("grade: severity 1 to 4", DESK, "grade(0, ?)", 1, 4, "INVALID");
        Script.refused("grade: a report", DESK, "grade(?, 1)", 0, 2, "INVALID");
        Script.run("the severities 1 to 4 are taken, for the first report and the last", DESK, """
                grade(0, 1) = 10; reportOf(0, 4) = 1; undo(); grade(0, 2) = 40; reportOf(0, 4) = 2; undo()
                grade(0, 3) = 90; reportOf(0, 4) = 3; undo(); grade(0, 4) = 160; reportOf(0, 4) = 4
                grade(2, 1) = 90; undo(); grade(2, 4) = 1440; reportOf(2, 4) = 4; reportOf(2, 3) = 1
                """);
        Script.run("no report on an empty desk", """
                grade(0, 1) = INVALID; grade(-1, 1) = INVALID; appeal(0, 2) = INVALID; appeal(-1, 2) = INVALID
                decide(0, 1) = INVALID; decide(-1, 1) = INVALID
                """);
    }

    /** Of every weight, severity and rate; the percents are taken last, and rounded down once. */
    private static void prices() {
        for (int weight = 1; weight <= 9; weight++) {
            StringBuilder run = new StringBuilder("addAsset(" + weight + ", 10000); addHunter()\n");
            for (int severity = 1; severity <= 4; severity++) {
                run.append("report(0, 0, 1); grade(").append(severity - 1).append(", ").append(severity).append(")\n");
            }
            for (int rate : RATES) {
                run.append("setRate(").append(rate).append(")\n");
                for (int severity = 1; severity <= 4; severity++) {
                    long hundredths = (long) severity * severity * weight * 10 * rate;
                    run.append("reportOf(").append(severity - 1).append(", 7) = ").append(hundredths / 100).append('\n');
                }
            }
            Script.run("the price with a weight of " + weight, run.toString());
        }
    }

    private static void rateWhenItIsPaid() {
        Script.run("as many percent as the rate says when it is paid", DESK, """
                grade(0, 2) = 40; setRate(199); pay(0) = 79; setRate(50); reportOf(0, 9) = 79; reportOf(0, 7) = 20
                hunter(0, 1) = 79
                """);
        Script.run("the smallest and the greatest price", """
                addAsset(1, 10000); addAsset(9, 10000); addHunter(); report(0, 0, 1); report(0, 1, 1)
                setRate(50); grade(0, 1) = 5; pay(0) = 5; setRate(200); grade(1, 4) = 2880; pay(1) = 2880
                asset(0, 2) = 9995; asset(1, 2) = 7120; hunter(0, 1) = 2885
                """);
        Script.run("the rate of the quarter's beginning, for one that waits", """
                addAsset(1, 5); addHunter(); report(0, 0, 1); grade(0, 1); setRate(200); pay(0) = 0
                setRate(100); pass(90) = 1; reportOf(0, 9) = 10
                """);
    }

    private static void onlyNewOnesAreGraded() {
        Script.run("a graded one can't be graded again", DESK, "grade(0, 1); grade(0, 1) = ILLEGAL; grade(0, 4) = ILLEGAL");
        Script.run("a waiting one can't be graded", DESK, "grade(2, 1); pay(2) = 0; grade(2, 1) = ILLEGAL");
        Script.run("a paid one can't be graded", DESK, "grade(0, 1); pay(0) = 10; grade(0, 1) = ILLEGAL");
        Script.run("a refused one can't be graded", DESK, "refuse(0); grade(0, 1) = ILLEGAL");
        Script.run("a folded one can't be graded", DESK, "fold(1) = 0; grade(1, 1) = ILLEGAL; grade(0, 1) = 10");
        Script.run("one that is new again can be graded", DESK, """
                grade(0, 1); pay(0); retest(1, 0, 0); retest(2, 0, 0) = 2; grade(0, 4) = 160
                """);
    }

    private static void claims() {
        String graded = DESK + "grade(0, 1)\n";
        Script.refused("appeal: severity 2 to 4", graded, "appeal(0, ?)", 2, 4, "INVALID");
        Script.refused("appeal: a report", graded, "appeal(?, 2)", 0, 2, "INVALID");
        Script.run("the price with this severity as the rate is now", graded, """
                appeal(0, 2) = 40; undo(); appeal(0, 3) = 90; undo(); appeal(0, 4) = 160; undo()
                setRate(55); appeal(0, 2) = 22; undo(); appeal(0, 3) = 49; undo(); appeal(0, 4) = 88
                reportOf(0, 7) = 5; reportOf(0, 4) = 1
                """);
    }

    private static void claimGreaterThanTheOneSet() {
        Script.run("greater than 1", DESK, "grade(0, 1); appeal(0, 1) = INVALID; appeal(0, 2) = 40");
        Script.run("greater than 2", DESK, "grade(0, 2); appeal(0, 2) = ILLEGAL; appeal(0, 3) = 90; undo(); appeal(0, 4) = 160");
        Script.run("greater than 3", DESK, "grade(0, 3); appeal(0, 2) = ILLEGAL; appeal(0, 3) = ILLEGAL; appeal(0, 4) = 160");
        Script.run("greater than 4", DESK, """
                grade(0, 4); appeal(0, 2) = ILLEGAL; appeal(0, 3) = ILLEGAL; appeal(0, 4) = ILLEGAL; appeal(0, 5) = INVALID
                """);
    }

    private static void whenAnAppealIsPossible() {
        Script.run("as long as it is graded or waiting", DESK, """
                appeal(2, 4) = ILLEGAL; grade(2, 1); appeal(2, 4) = 1440; undo(); pay(2) = 0; appeal(2, 4) = 1440
                reportOf(2, 3) = 2; reportOf(2, 8) = 1; count(15) = 1
                """);
        Script.run("not for a paid one", DESK, "grade(0, 1); pay(0) = 10; appeal(0, 4) = ILLEGAL");
        Script.run("not for a refused one", DESK, "grade(0, 1); refuse(0); appeal(0, 4) = ILLEGAL");
        Script.run("not for a folded one", DESK, "fold(1); appeal(1, 4) = ILLEGAL");
    }

    private static void onceForEachReport() {
        Script.run("once for each report, open or decided", DESK, """
                grade(0, 1); appeal(0, 2) = 40; appeal(0, 3) = ILLEGAL; appeal(0, 4) = ILLEGAL
                decide(0, 2) = 2; appeal(0, 3) = ILLEGAL; appeal(0, 4) = ILLEGAL
                grade(2, 1); appeal(2, 2) = 360; count(15) = 1
                """);
        Script.run("for each of a hunter's reports", DESK, """
                report(0, 1, 9); grade(0, 1); grade(3, 1); appeal(0, 2) = 40; appeal(3, 2) = 360; count(15) = 2
                """);
        Script.run("again when it is new again, with no appeal", DESK, """
                grade(0, 1); appeal(0, 2); decide(0, 1) = 0; pay(0); retest(1, 0, 0); retest(2, 0, 0) = 2
                reportOf(0, 8) = 0; grade(0, 1); appeal(0, 2) = 40; reportOf(0, 8) = 1
                """);
    }

    private static void onceWhateverIsDecided() {
        Script.run("not again when it was lost", DESK, "grade(0, 1); appeal(0, 3); decide(0, 1) = 0; appeal(0, 4) = ILLEGAL");
        Script.run("not again when nobody won", DESK, "grade(0, 1); appeal(0, 3); decide(0, 2) = 1; appeal(0, 4) = ILLEGAL");
        Script.run("not again when it was won", DESK, "grade(0, 1); appeal(0, 3); decide(0, 3) = 2; appeal(0, 4) = ILLEGAL");
    }

    private static void decideArguments() {
        Script.refused("decide: a report", DESK + "grade(0, 1); appeal(0, 3)\n", "decide(?, 2)", 0, 2, "INVALID");
        Script.refused("decide: 1 to 3", DESK + "grade(0, 1); appeal(0, 3)\n", "decide(0, ?)", 1, 3, "INVALID");
        Script.refused("decide: 1 to 2", DESK + "grade(0, 1); appeal(0, 2)\n", "decide(0, ?)", 1, 2, "INVALID");
        Script.refused("decide: 3 to 4", DESK + "grade(0, 3); appeal(0, 4)\n", "decide(0, ?)", 3, 4, "INVALID");
        Script.refused("decide: 2 to 3", DESK + "grade(0, 2); appeal(0, 3)\n", "decide(0, ?)", 2, 3, "INVALID");
    }

    /** Every severity from the one that was set to the one that was claimed, for each pair of these. */
    private static void decideBetweenBoth() {
        for (int set = 1; set <= 3; set++) {
            for (int claimed = set + 1; claimed <= 4; claimed++) {
                StringBuilder run = new StringBuilder(DESK);
                run.append("grade(2, ").append(set).append("); appeal(2, ").append(claimed).append(")\n");
                for (int severity = set; severity <= claimed; severity++) {
                    int due = severity == claimed ? 2 : severity == set ? 0 : 1;
                    run.append("decide(2, ").append(severity).append(") = ").append(due).append('\n');
                    run.append("reportOf(2, 4) = ").append(severity).append("; reportOf(2, 8) = 2\n");
                    run.append("hunter(2, 3) = ").append(due / 2).append("; hunter(2, 4) = ").append(due == 0 ? 1 : 0);
                    run.append("; hunter(2, 2) = ").append(due == 2 ? 2 : due - 1).append("; undo()\n");
                }
                Script.run("between " + set + " and " + claimed + " (these included)", run.toString());
            }
        }
    }

    private static void whoWins() {
        Script.run("the hunter of the report wins or loses it, each time anew", DESK, """
                report(1, 1, 7); report(1, 1, 8); grade(1, 1); grade(3, 1); grade(4, 2)
                appeal(1, 2); appeal(3, 4); appeal(4, 3); count(15) = 3
                decide(1, 2) = 2; count(15) = 2; decide(3, 4) = 2; decide(4, 2) = 0; count(15) = 0
                hunter(1, 3) = 2; hunter(1, 4) = 1; hunter(1, 2) = 3; hunter(0, 3) = 0; hunter(2, 4) = 0
                """);
        Script.run("a waiting one still waits when it is decided", DESK, """
                grade(2, 1); pay(2) = 0; appeal(2, 3); fill(1000); decide(2, 2) = 1; reportOf(2, 3) = 2
                reportOf(2, 7) = 360; reportOf(2, 9) = 0; count(2) = 1000; pay(2) = 360
                """);
    }

    private static void noOpenAppeal() {
        Script.run("no open appeal for a new, graded, waiting, paid, refused or folded one", DESK, """
                decide(0, 1) = ILLEGAL; grade(0, 1); decide(0, 1) = ILLEGAL; fold(1); decide(1, 1) = ILLEGAL
                pay(0) = 10; decide(0, 1) = ILLEGAL; grade(2, 1); pay(2) = 0; decide(2, 1) = ILLEGAL
                refuse(2); decide(2, 1) = ILLEGAL
                """);
        Script.run("open until it is decided", DESK, """
                grade(0, 1); appeal(0, 2); pass(400) = 0; reportOf(0, 8) = 1; count(15) = 1
                decide(0, 1) = 0; decide(0, 1) = ILLEGAL; decide(0, 2) = ILLEGAL; reportOf(0, 8) = 2; count(15) = 0
                """);
    }

    private static void openAppealAndPaying() {
        Script.run("as long as an appeal is open, the report cannot be paid", DESK, """
                grade(0, 1); appeal(0, 2); pay(0) = ILLEGAL; decide(0, 2) = 2; pay(0) = 40
                """);
        Script.run("nor by a quarter that begins", DESK, """
                grade(2, 1); pay(2) = 0; appeal(2, 2); fill(1000); pay(2) = ILLEGAL; pass(90) = 0; reportOf(2, 3) = 2
                decide(2, 1) = 0; pass(90) = 1; reportOf(2, 9) = 90; reportOf(2, 3) = 3
                """);
    }
}
