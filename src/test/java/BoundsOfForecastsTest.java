/** The boundary sentences of promises 22 and 24. The titles are the sentences. */
public final class BoundsOfForecastsTest {
    private static final String WAITING = "addHunter(); report(0, 0, 1); grade(0, 4); pay(0)\n";

    public static void main(String[] args) {
        lackOfNothing();
        lackByOne();
        lackOfSeveralAssets();
        lackOfWhichReports();
        lackWithAppeals();
        lackAsTheRateIsNow();
        paidInArguments();
        paidInStates();
        paidInDays();
        paidInTwelveQuarters();
        paidInByOne();
        paidInOpenAppeals();
        paidInOthers();
        paidInUnbounded();
        paidInComesTrue();
        Script.end();
    }

    private static void lackOfNothing() {
        Script.run("0 if nothing", "lack() = 0; addAsset(1, 5); lack() = 0; addHunter(); lack() = 0; report(0, 0, 1); lack() = 0");
        Script.run("0, and not less, if there is more than enough", """
                addAsset(1, 100); addHunter(); report(0, 0, 1); grade(0, 1); fill(100000); lack() = 0
                """);
    }

    private static void lackByOne() {
        Script.run("a pool of just the price lacks nothing", "addAsset(1, 160); addHunter(); report(0, 0, 1)\n", """
                grade(0, 4); lack() = 0
                """);
        Script.run("a pool of 1 less lacks 1", "addAsset(1, 159); addHunter(); report(0, 0, 1)\n", """
                grade(0, 4); lack() = 1; fill(1); lack() = 0
                """);
        Script.run("a reserve of 1 less lacks 1", "addAsset(1, 0); addHunter(); report(0, 0, 1); grade(0, 4)\n", """
                lack() = 160; fill(159); lack() = 1; fill(1); lack() = 0; fill(1); lack() = 0; pay(0) = 160; lack() = 0
                """);
    }

    private static void lackOfSeveralAssets() {
        Script.run("what one pool has above does not help another asset", """
                addAsset(1, 1000); addAsset(1, 5); addAsset(1, 7); addHunter(); report(0, 0, 1); report(0, 1, 1); report(0, 2, 1)
                grade(0, 1); grade(1, 1); grade(2, 1); lack() = 8; fill(3); lack() = 5; fill(5); lack() = 0
                """);
        Script.run("several reports of one asset share its pool", """
                addAsset(1, 15); addHunter(); report(0, 0, 1); report(0, 0, 2); report(0, 0, 3); grade(0, 1); lack() = 0
                grade(1, 1); lack() = 5; grade(2, 1); lack() = 15; pay(1) = 10; lack() = 15; fill(15); lack() = 0
                """);
        Script.run("all 40 reports, and the sixth asset", "addAsset(1, 0)\n".repeat(5), "addAsset(9, 0); addHunter()\n",
                "report(0, 5, 1)\n".repeat(40), "setRate(200)\n", """
                grade(0, 4); grade(39, 4); lack() = 5760; refuse(0); lack() = 2880; grade(20, 1); lack() = 3060
                """);
    }

    private static void lackOfWhichReports() {
        Script.run("all that are graded or waiting, no new, paid, refused or folded ones", """
                addAsset(1, 10); addHunter(); report(0, 0, 1); report(0, 0, 2); report(0, 0, 3); report(0, 0, 1); report(0, 0, 4)
                lack() = 0; grade(0, 1); pay(0) = 10; lack() = 0; fold(3); lack() = 0; refuse(4); lack() = 0
                grade(1, 1); lack() = 10; grade(2, 2); lack() = 50; pay(2) = 0; lack() = 50; refuse(1); lack() = 40
                """);
        Script.run("graded, and refused then", "addAsset(1, 0); addHunter(); report(0, 0, 1)\n", """
                grade(0, 1); lack() = 10; refuse(0); lack() = 0
                """);
    }

    private static void lackWithAppeals() {
        Script.run("open appeals or not, by the severity that is set", """
                addAsset(1, 0); addHunter(); report(0, 0, 1); grade(0, 1); lack() = 10; appeal(0, 4); lack() = 10
                decide(0, 3) = 1; lack() = 90; pay(0) = 0; lack() = 90
                """);
        Script.run("open appeals of waiting ones", """
                addAsset(1, 0); addHunter(); report(0, 0, 1); grade(0, 1); pay(0) = 0; appeal(0, 4); lack() = 10
                """);
    }

    private static void lackAsTheRateIsNow() {
        Script.run("could be paid now: at the rate of now, without a quarter's allowance", """
                addAsset(1, 4); addHunter(); report(0, 0, 1); grade(0, 1); setRate(55); lack() = 1; setRate(200); lack() = 16
                pass(89); lack() = 16; pass(1); lack() = 12; setRate(80); lack() = 0
                """);
    }

    private static void paidInArguments() {
        String desk = "addAsset(1, 100)\n" + WAITING + "report(0, 0, 2)\n";
        Script.refused("paidIn: a report", desk, "paidIn(?)", 0, 1, "INVALID");
        Script.run("no report on an empty desk", "paidIn(0) = INVALID; paidIn(-1) = INVALID");
        Script.run("the first and the last report", "addAsset(1, 0); addHunter()\n", "report(0, 0, 1)\n".repeat(40), """
                grade(39, 1); pay(39) = 0; grade(0, 1); pay(0) = 0; fill(19)
                paidIn(0) = 90; paidIn(39) = NONE; fill(1); paidIn(39) = 90; paidIn(40) = INVALID
                """);
    }

    private static void paidInStates() {
        Script.run("ILLEGAL_STATE if it does not wait", "addAsset(1, 100)\n", "addHunter()\n".repeat(3), """
                report(0, 0, 1); report(0, 0, 1); report(0, 0, 2); paidIn(0) = ILLEGAL; grade(0, 1); paidIn(0) = ILLEGAL
                appeal(0, 2); paidIn(0) = ILLEGAL; decide(0, 1); pay(0) = 10; paidIn(0) = ILLEGAL; fold(1); paidIn(1) = ILLEGAL
                refuse(2); paidIn(2) = ILLEGAL; retest(1, 0, 1); retest(2, 0, 1); paidIn(0) = ILLEGAL
                """);
        Script.run("not for one that waited and is refused or paid now", "addAsset(1, 100)\n", WAITING, """
                paidIn(0) = 90; refuse(0); paidIn(0) = ILLEGAL; undo(); fill(60); pay(0) = 160; paidIn(0) = ILLEGAL
                """);
    }

    private static void paidInDays() {
        Script.run("the days up to the next quarter's beginning", "addAsset(1, 80)\n", WAITING, """
                paidIn(0) = 90; pass(1); paidIn(0) = 89; pass(87); paidIn(0) = 2; pass(1); paidIn(0) = 1; pass(1) = 1
                """);
        Script.run("on a quarter's first day it is the next one", "addAsset(1, 0)\n", WAITING, """
                pass(90) = 0; fill(160); paidIn(0) = 90; pass(89) = 0; paidIn(0) = 1; pass(1) = 1
                """);
        Script.run("the days up to the second quarter's beginning", "addAsset(1, 79)\n", WAITING, """
                paidIn(0) = 180; pass(89); paidIn(0) = 91; pass(1) = 0; paidIn(0) = 90; pass(89); paidIn(0) = 1; pass(1) = 1
                """);
    }

    /** With an allowance of 13 there are 169 at the twelfth quarter, and with 12 there are 156. */
    private static void paidInTwelveQuarters() {
        Script.run("paid at the beginning of the twelfth of the next quarters", "addAsset(1, 13)\n", WAITING, """
                paidIn(0) = 1080; pass(400); pass(400); pass(279) = 0; paidIn(0) = 1; pass(1) = 1
                """);
        Script.run("within a quarter", "addAsset(1, 13)\n", "pass(45)\n", "addHunter(); report(0, 0, 1); grade(0, 4); pay(0) = 0\n", """
                paidIn(0) = 1035; pass(400); pass(400); pass(234) = 0; pass(1) = 1
                """);
        Script.run("NONE at the thirteenth", "addAsset(1, 12)\n", WAITING, """
                paidIn(0) = NONE; pass(89); paidIn(0) = NONE; pass(1) = 0; paidIn(0) = 1080
                """);
        Script.run("NONE without any money to come", "addAsset(1, 0)\n", WAITING, "paidIn(0) = NONE; fill(159); paidIn(0) = NONE; fill(1); paidIn(0) = 90");
    }

    private static void paidInByOne() {
        Script.run("1 too little is paid a quarter later", "addAsset(1, 50)\n", WAITING, """
                paidIn(0) = 270; fill(9); paidIn(0) = 270; fill(1); paidIn(0) = 180
                fill(49); paidIn(0) = 180; fill(1); paidIn(0) = 90
                """);
        Script.run("at the rate of now", "addAsset(1, 80)\n", WAITING, """
                setRate(101); paidIn(0) = 180; setRate(100); paidIn(0) = 90; setRate(50); paidIn(0) = 90
                """);
    }

    private static void paidInOpenAppeals() {
        Script.run("not with an open appeal", "addAsset(1, 10); addHunter(); report(0, 0, 1); setRate(200); grade(0, 1)\n", """
                pay(0) = 0; paidIn(0) = 90; appeal(0, 4); paidIn(0) = NONE; decide(0, 1) = 0; paidIn(0) = 90
                """);
        Script.run("an earlier one with an open appeal takes nothing", """
                addAsset(1, 5); addHunter(); report(0, 0, 1); report(0, 0, 2); grade(0, 1); grade(1, 1); pay(0) = 0; pay(1) = 0
                paidIn(0) = 90; paidIn(1) = 270; appeal(0, 2); paidIn(1) = 90; paidIn(0) = NONE
                """);
    }

    private static void paidInOthers() {
        Script.run("if nothing else is done: those that are graded take nothing", """
                addAsset(1, 5); addHunter(); report(0, 0, 1); report(0, 0, 2); grade(0, 1); grade(1, 1); pay(1) = 0
                paidIn(1) = 90; pay(0) = 0; paidIn(1) = 270; paidIn(0) = 90
                """);
        Script.run("later ones take only what is left", """
                addAsset(1, 5); addHunter(); report(0, 0, 1); report(0, 0, 2); grade(0, 2); grade(1, 1); pay(0) = 0; pay(1) = 0
                paidIn(1) = 90; paidIn(0) = 810; pass(89) = 0; pass(1) = 1; reportOf(1, 3) = 3; paidIn(0) = 720
                """);
        Script.run("other assets bring the reserve", """
                addAsset(1, 0); addAsset(9, 20); addHunter(); report(0, 0, 1); grade(0, 2); pay(0) = 0
                paidIn(0) = 270; pass(269) = 0; paidIn(0) = 1; pass(1) = 1
                """);
    }

    private static void paidInUnbounded() {
        String later = "pass(400)\n".repeat(24) + "pass(399)\n";
        Script.run("the day is not bounded", "addAsset(1, 0); addHunter(); report(0, 0, 1); grade(0, 1); pay(0)\n", later, """
                paidIn(0) = NONE; fill(10); paidIn(0) = 81; pass(1) = ILLEGAL; undo(); addAsset(1, 1) = 1; paidIn(0) = 981
                undo(); addAsset(9, 2); paidIn(0) = 531
                """);
        Script.run("in the twelfth quarter beyond the last day", "addAsset(1, 0); addHunter(); report(0, 0, 1)\n", """
                setRate(110); grade(0, 1); pay(0) = 0
                """, later, "addAsset(1, 1) = 1; paidIn(0) = 1071; setRate(120); paidIn(0) = NONE");
    }

    /** Each day of the first three quarters it is told for the same day. */
    private static void paidInComesTrue() {
        StringBuilder run = new StringBuilder("addAsset(1, 50)\n").append(WAITING);
        for (int day = 0; day < 270; day += 15) {
            run.append("paidIn(0) = ").append(270 - day).append("; pass(15) = ").append(day == 255 ? 1 : 0).append('\n');
        }
        Script.run("in so many days it is paid", run.toString(), "paidIn(0) = ILLEGAL; reportOf(0, 3) = 3");
    }
}
