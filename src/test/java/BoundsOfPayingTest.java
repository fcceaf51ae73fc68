/** The boundary sentences of "Paying" and of promises 13 and 15. The titles are the sentences. */
public final class BoundsOfPayingTest {
    private static final String HUNTERS = "addHunter()\n".repeat(8);
    private static final String ONE_REPORT = "addHunter(); report(0, 0, 1); grade(0, 1)\n";

    public static void main(String[] args) {
        payArguments();
        poolAlone();
        poolAndReserve();
        neitherDoes();
        otherPoolsDoNot();
        payable();
        notPayable();
        waitsAndIsPaid();
        numbersOfParts();
        sizesOfParts();
        whoGetsParts();
        foldedAtThatTime();
        days();
        lastDay();
        waitingByTheirNumbers();
        eachThatCanBePaidThen();
        behindTheAllowances();
        quarterByQuarter();
        notPaidByAQuarter();
        Script.end();
    }

    private static void payArguments() {
        String desk = "addAsset(1, 100); addHunter(); report(0, 0, 1); report(0, 0, 2); grade(0, 1); grade(1, 1)\n";
        Script.refused("pay: a report", desk, "pay(?)", 0, 1, "INVALID");
        Script.run("the first and the last report", desk, "pay(1) = 10; pay(0) = 10; pay(2) = INVALID");
        Script.run("no report on an empty desk", "pay(0) = INVALID; pay(-1) = INVALID");
    }

    private static void poolAlone() {
        Script.run("a pool of the price does", "addAsset(1, 10); fill(5)\n", ONE_REPORT, """
                pay(0) = 10; asset(0, 2) = 0; count(2) = 5; reportOf(0, 3) = 3; reportOf(0, 9) = 10; hunter(0, 1) = 10
                """);
        Script.run("a pool above the price keeps the rest", "addAsset(1, 11); fill(5)\n", ONE_REPORT, """
                pay(0) = 10; asset(0, 2) = 1; count(2) = 5
                """);
        Script.run("the pool is taken ahead of the reserve", "addAsset(1, 10000); fill(100000)\n", ONE_REPORT, """
                pay(0) = 10; asset(0, 2) = 9990; count(2) = 100000
                """);
    }

    private static void poolAndReserve() {
        Script.run("a pool of 1 less, and 1 of the reserve", "addAsset(1, 9); fill(1)\n", ONE_REPORT, """
                pay(0) = 10; asset(0, 2) = 0; count(2) = 0; hunter(0, 1) = 10; count(13) = 10
                """);
        Script.run("a pool of 1, and the reserve keeps its rest", "addAsset(1, 1); fill(12)\n", ONE_REPORT, """
                pay(0) = 10; asset(0, 2) = 0; count(2) = 3
                """);
        Script.run("the reserve alone", "addAsset(1, 0); fill(10)\n", ONE_REPORT, """
                pay(0) = 10; asset(0, 2) = 0; count(2) = 0
                """);
    }

    private static void neitherDoes() {
        Script.run("if both together do not do, nothing is paid", "addAsset(1, 8); fill(1)\n", ONE_REPORT, """
                pay(0) = 0; reportOf(0, 3) = 2; asset(0, 2) = 8; count(2) = 1; hunter(0, 1) = 0; count(13) = 0
                reportOf(0, 9) = 0; reportOf(0, 4) = 1; reportOf(0, 7) = 10; hunter(0, 2) = 0
                """);
        Script.run("nor by a pool of 1 less", "addAsset(1, 9)\n", ONE_REPORT, "pay(0) = 0; asset(0, 2) = 9");
        Script.run("nor by a reserve of 1 less", "addAsset(1, 0); fill(9)\n", ONE_REPORT, "pay(0) = 0; count(2) = 9");
        Script.run("nor by nothing at all", "addAsset(1, 0)\n", ONE_REPORT, "pay(0) = 0; count(8) = 1; count(7) = 0");
    }

    private static void otherPoolsDoNot() {
        Script.run("from the pool of the asset, not of another one", """
                addAsset(1, 9); addAsset(1, 10000); addHunter(); report(0, 0, 1); report(0, 1, 1); grade(0, 1); grade(1, 1)
                pay(0) = 0; asset(1, 2) = 10000; pay(1) = 10; asset(0, 2) = 9; asset(1, 2) = 9990
                """);
    }

    private static void payable() {
        Script.run("a graded one can be paid", "addAsset(1, 10)\n", ONE_REPORT, "reportOf(0, 3) = 1; pay(0) = 10");
        Script.run("a waiting one can be paid", "addAsset(1, 0)\n", ONE_REPORT, """
                pay(0) = 0; reportOf(0, 3) = 2; pay(0) = 0; fill(10); reportOf(0, 3) = 2; pay(0) = 10; reportOf(0, 3) = 3
                """);
        Script.run("this is a deed, also if it waits then, and still waits", "addAsset(1, 0)\n", ONE_REPORT, """
                count(16) = 4; pay(0) = 0; count(16) = 5; pay(0) = 0; count(16) = 6
                undo() = 5; reportOf(0, 3) = 2; undo() = 4; reportOf(0, 3) = 1
                """);
    }

    private static void notPayable() {
        Script.run("a new one can't be paid", "addAsset(1, 10); addHunter(); report(0, 0, 1)\n", "pay(0) = ILLEGAL");
        Script.run("a paid one can't be paid again", "addAsset(1, 100)\n", ONE_REPORT, "pay(0) = 10; pay(0) = ILLEGAL");
        Script.run("a refused one can't be paid", "addAsset(1, 100)\n", ONE_REPORT, "refuse(0); pay(0) = ILLEGAL");
        Script.run("a folded one can't be paid", "addAsset(1, 100)\n", ONE_REPORT, """
                report(0, 0, 1); fold(1) = 0; pay(1) = ILLEGAL
                """);
        Script.run("not with an open appeal", "addAsset(1, 100)\n", ONE_REPORT, """
                appeal(0, 2); pay(0) = ILLEGAL; decide(0, 1) = 0; pay(0) = 10
                """);
        Script.run("nor with one while it waits", "addAsset(1, 0)\n", ONE_REPORT, """
                pay(0) = 0; appeal(0, 2); fill(100); pay(0) = ILLEGAL; decide(0, 2) = 2; pay(0) = 40
                """);
    }

    private static void waitsAndIsPaid() {
        Script.run("one that is new again is paid anew", "addAsset(1, 100); addHunter(); addHunter()\n", ONE_REPORT, """
                pay(0) = 10; retest(1, 0, 0); retest(2, 0, 0) = 2; pay(0) = ILLEGAL; grade(0, 2); pay(0) = 40
                hunter(0, 1) = 50; reportOf(0, 9) = 40; count(13) = 50; asset(0, 2) = 50
                """);
    }

    /** Nought to five folded ones, each of another hunter. */
    private static void numbersOfParts() {
        for (int folded = 0; folded <= 5; folded++) {
            StringBuilder run = new StringBuilder("addAsset(3, 1000)\n").append(HUNTERS);
            run.append("report(0, 0, 1)\n");
            for (int i = 1; i <= folded; i++) {
                run.append("report(").append(i).append(", 0, 1); fold(").append(i).append(")\n");
            }
            run.append("grade(0, 2); pay(0) = 120\n");
            run.append("hunter(0, 1) = ").append(120 - 12 * Math.min(folded, 3)).append('\n');
            for (int i = 1; i <= 6; i++) {
                run.append("hunter(").append(i).append(", 1) = ").append(i <= Math.min(folded, 3) ? 12 : 0).append('\n');
            }
            Script.run("a part for the first three of " + folded, run.toString());
        }
    }

    /** A tenth rounded down: of 5, 9, 10, 11, 19 and 20. */
    private static void sizesOfParts() {
        int[] rates = {50, 95, 100, 115, 195, 200};
        for (int rate : rates) {
            int price = rate / 10;
            Script.run("a tenth of " + price, "addAsset(1, 100); addHunter(); addHunter()\n", """
                    addHunter(); addHunter(); report(0, 0, 1); report(1, 0, 1); report(2, 0, 1); report(3, 0, 1)
                    fold(1); fold(2); fold(3); grade(0, 1)
                    """, "setRate(" + rate + "); pay(0) = " + price + "\n",
                    "hunter(0, 1) = " + (price - 3 * (price / 10)) + "; hunter(1, 1) = " + price / 10 + "\n",
                    "hunter(2, 1) = " + price / 10 + "; hunter(3, 1) = " + price / 10);
        }
        Script.run("a tenth of the greatest prices", "addAsset(9, 10000); addHunter(); addHunter()\n", """
                report(0, 0, 1); report(1, 0, 1); fold(1); grade(0, 4); setRate(200)
                report(0, 0, 2); report(1, 0, 2); fold(3); grade(2, 4)
                pay(0) = 2880; hunter(0, 1) = 2592; hunter(1, 1) = 288
                setRate(199); pay(2) = 2865; hunter(0, 1) = 5171; hunter(1, 1) = 574; count(13) = 5745
                """);
    }

    private static void whoGetsParts() {
        Script.run("by their numbers, not in the order of folding", "addAsset(1, 1000)\n", HUNTERS, """
                report(0, 0, 1); report(1, 0, 1); report(2, 0, 1); report(3, 0, 1); report(4, 0, 1)
                fold(4); fold(3); fold(2); fold(1); grade(0, 4); pay(0) = 160
                hunter(0, 1) = 112; hunter(1, 1) = 16; hunter(2, 1) = 16; hunter(3, 1) = 16; hunter(4, 1) = 0
                """);
        Script.run("one hunter perhaps several times", "addAsset(1, 1000)\n", HUNTERS, """
                report(0, 0, 1); report(1, 0, 1); report(1, 0, 1); report(1, 0, 1); report(1, 0, 1)
                fold(1); fold(2); fold(3); fold(4); grade(0, 3); pay(0) = 90; hunter(0, 1) = 63; hunter(1, 1) = 27
                """);
        Script.run("also the hunter of the report", "addAsset(1, 1000)\n", HUNTERS, """
                report(0, 0, 1); report(0, 0, 1); report(2, 0, 1); fold(1); fold(2); grade(0, 3); pay(0) = 90
                hunter(0, 1) = 81; hunter(2, 1) = 9
                """);
        Script.run("the own duplicates count among the first three", "addAsset(1, 1000)\n", HUNTERS, """
                report(0, 0, 1); report(0, 0, 1); report(1, 0, 1); report(0, 0, 1); report(2, 0, 1)
                fold(1); fold(2); fold(3); fold(4); grade(0, 3); pay(0) = 90
                hunter(0, 1) = 81; hunter(1, 1) = 9; hunter(2, 1) = 0
                """);
        Script.run("all first three by the hunter of the report", "addAsset(1, 1000)\n", HUNTERS, """
                report(0, 0, 1); report(0, 0, 1); report(0, 0, 1); report(0, 0, 1); report(1, 0, 1)
                fold(1); fold(2); fold(3); fold(4); grade(0, 3); pay(0) = 90; hunter(0, 1) = 90; hunter(1, 1) = 0
                """);
        Script.run("one hunter twice, and another one behind the third", "addAsset(1, 1000)\n", HUNTERS, """
                report(0, 0, 1); report(1, 0, 1); report(2, 0, 1); report(1, 0, 1); report(3, 0, 1)
                fold(1); fold(2); fold(3); fold(4); grade(0, 3); pay(0) = 90
                hunter(0, 1) = 63; hunter(1, 1) = 18; hunter(2, 1) = 9; hunter(3, 1) = 0
                """);
        Script.run("one that is not the first report, and the last number", "addAsset(1, 1000)\n", HUNTERS, """
                report(7, 0, 2); report(6, 0, 1)
                """, "report(7, 0, 2)\n".repeat(37), """
                report(5, 0, 1) = 39; fold(39) = 1; grade(1, 3); pay(1) = 90; hunter(6, 1) = 81; hunter(5, 1) = 9
                hunter(7, 1) = 0
                """);
    }

    private static void foldedAtThatTime() {
        Script.run("no part for one that tells the same, but is not folded", "addAsset(1, 1000)\n", HUNTERS, """
                report(0, 0, 1); report(1, 0, 1); report(2, 0, 1); fold(2) = 0; grade(0, 3); pay(0) = 90
                hunter(0, 1) = 81; hunter(1, 1) = 0; hunter(2, 1) = 9; fold(1) = 0; hunter(1, 1) = 0
                """);
        Script.run("parts by a quarter that begins, too", "addAsset(1, 45)\n", HUNTERS, """
                report(0, 0, 1); report(1, 0, 1); grade(0, 3); pay(0) = 0; fold(1) = 0; hunter(1, 1) = 0
                pass(90) = 1; hunter(0, 1) = 81; hunter(1, 1) = 9; reportOf(0, 9) = 90; count(13) = 90
                """);
    }

    private static void days() {
        Script.refused("days: 1 to 400", "addAsset(1, 10)\n", "pass(?)", 1, 400, "INVALID");
        Script.refused("days: 1 to 400, on a later day", "pass(400); pass(7)\n", "pass(?)", 1, 400, "INVALID");
        Script.run("1 and 400 days are taken", "pass(1) = 0; count(0) = 1; pass(400) = 0; count(0) = 401; pass(399) = 0; count(0) = 800");
    }

    private static void lastDay() {
        String day9600 = "pass(400)\n".repeat(24);
        Script.run("day 9999 is taken, in one go", day9600, "pass(400) = ILLEGAL; pass(399) = 0; count(0) = 9999; count(1) = 111");
        Script.run("day 9999 is taken by 400 days", "pass(400)\n".repeat(23), "pass(399); pass(400) = 0; count(0) = 9999");
        Script.run("day 10000 is refused", day9600, """
                pass(398) = 0; pass(2) = ILLEGAL; pass(400) = ILLEGAL; count(0) = 9998
                pass(1) = 0; count(0) = 9999; pass(1) = ILLEGAL; pass(400) = ILLEGAL; pass(0) = INVALID; pass(401) = INVALID
                """);
    }

    private static void waitingByTheirNumbers() {
        Script.run("gone through by their numbers", "addAsset(1, 5); addHunter(); addHunter()\n", """
                report(0, 0, 1); report(1, 0, 2); grade(1, 1); pay(1) = 0; grade(0, 1); pay(0) = 0
                pass(90) = 1; reportOf(0, 3) = 3; reportOf(1, 3) = 2; hunter(0, 1) = 10; hunter(1, 1) = 0; asset(0, 2) = 0
                pass(90) = 0; pass(90) = 1; hunter(1, 1) = 10
                """);
        Script.run("the first and the last number", "addAsset(1, 0); addHunter()\n", "report(0, 0, 1)\n".repeat(40), """
                grade(39, 1); pay(39) = 0; grade(0, 2); pay(0) = 0; fill(50); pass(89) = 0
                pass(1) = 2; reportOf(0, 3) = 3; reportOf(39, 3) = 3; count(2) = 0
                """);
    }

    private static void eachThatCanBePaidThen() {
        Script.run("each one that can be paid then is paid, by exactly what there is", """
                addAsset(1, 10); addHunter(); report(0, 0, 1); report(0, 0, 2); report(0, 0, 3)
                grade(0, 3); grade(1, 1); grade(2, 1); pay(0) = 0; pay(1) = 10; pay(2) = 0; pass(90) = 1
                reportOf(0, 3) = 2; reportOf(2, 3) = 3; asset(0, 2) = 0; count(2) = 0
                """);
        Script.run("1 too little, and then enough", """
                addAsset(1, 9); addHunter(); report(0, 0, 1); grade(0, 1); setRate(199); pay(0) = 0
                pass(89) = 0; pass(1) = 0; reportOf(0, 3) = 2; asset(0, 2) = 18
                fill(1) = 1; reportOf(0, 3) = 2; pass(90) = 1; asset(0, 2) = 0; count(2) = 9
                """);
        Script.run("an earlier one with an open appeal leaves the money to later ones", """
                addAsset(1, 5); addHunter(); addHunter(); report(0, 0, 1); report(1, 0, 2); grade(0, 1); grade(1, 1)
                pay(0) = 0; pay(1) = 0; appeal(0, 2); pass(90) = 1; reportOf(0, 3) = 2; reportOf(1, 3) = 3
                """);
    }

    private static void behindTheAllowances() {
        Script.run("behind the allowances of all assets", """
                addAsset(1, 0); addAsset(1, 10); addHunter(); report(0, 0, 1); grade(0, 1); pay(0) = 0
                pass(90) = 0; count(2) = 0; asset(1, 2) = 20; pass(90) = 1; count(2) = 0; asset(1, 2) = 20
                """);
        Script.run("with the quarter's own allowance", """
                addAsset(1, 10); addHunter(); report(0, 0, 1); report(0, 0, 2); grade(0, 1); grade(1, 2)
                pay(0) = 10; pay(1) = 0; fill(29); pass(90) = 0; asset(0, 2) = 10; fill(1); pass(90) = 1
                asset(0, 2) = 0; count(2) = 10
                """);
    }

    private static void quarterByQuarter() {
        String two = "addAsset(1, 10); addHunter(); report(0, 0, 1); report(0, 0, 2)\n";
        Script.run("the number of all that were paid in several quarters", two, """
                grade(0, 2); grade(1, 2); pay(0) = 0; pay(1) = 0; pass(400) = 1; undo()
                pass(269) = 0; undo(); pass(270) = 1; reportOf(0, 3) = 3; asset(0, 2) = 0; count(2) = 0
                pass(359) = 0; pass(1) = 1; reportOf(1, 3) = 3
                """);
        Script.run("two in one call, each in its quarter", two, """
                grade(0, 1); grade(1, 1); pay(0) = 10; pay(1) = 0; setRate(150); pass(90) = 0; asset(0, 2) = 10
                undo(); pass(180) = 1; asset(0, 2) = 5; undo(); setRate(100); pass(90) = 1; asset(0, 2) = 0
                """);
    }

    private static void notPaidByAQuarter() {
        Script.run("no new, graded, refused or folded one is paid by a quarter", """
                addAsset(1, 10000); addHunter(); report(0, 0, 1); report(0, 0, 2); report(0, 0, 3); report(0, 0, 1)
                grade(1, 1); refuse(2); fold(3); pass(400) = 0; reportOf(0, 3) = 0; reportOf(1, 3) = 1
                reportOf(2, 3) = 4; reportOf(3, 3) = 5; hunter(0, 1) = 0
                """);
        Script.run("nor one within a quarter", """
                addAsset(1, 0); addHunter(); report(0, 0, 1); grade(0, 1); pay(0) = 0; pass(1); fill(100000)
                pass(88) = 0; reportOf(0, 3) = 2; pass(1) = 1; reportOf(0, 3) = 3
                """);
    }
}
