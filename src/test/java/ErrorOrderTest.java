/**
 * "If several error conditions apply, the method returns the one that its description
 * lists first", and NONE only if no error condition applies; and that a call that
 * returns an error code changes nothing, which Script tests behind each of them.
 */
public final class ErrorOrderTest {
    // 0 is paid and closed as gone, with 1 folded into it; 2 waits, 3 is graded with an open appeal,
    // 4 is refused, 5 is new, 6 is graded, 7 is paid with retests of the hunters 2 and 3.
    private static final String DESK = """
            addAsset(1, 100); addAsset(9, 0); addHunter(); addHunter(); addHunter(); addHunter(); addHunter()
            report(0, 0, 1); report(1, 0, 1); report(0, 1, 1); report(1, 0, 2); report(2, 0, 3); report(3, 0, 4)
            report(4, 0, 5); report(0, 0, 6); fold(1); refuse(4); grade(2, 2); pay(2); grade(3, 1); appeal(3, 3)
            grade(0, 1); pay(0); retest(2, 0, 1); retest(3, 0, 1); grade(6, 3); grade(7, 1); pay(7)
            retest(2, 7, 1); retest(3, 7, 0)
            """;

    public static void main(String[] args) {
        theDesk();
        addAsset();
        fill();
        report();
        fold();
        grade();
        refuse();
        appeal();
        decide();
        pay();
        retest();
        pass();
        looks();
        noneIsNoError();
        Script.end();
    }

    private static void theDesk() {
        Script.run("the desk", DESK, """
                reportOf(0, 3) = 3; reportOf(0, 12) = 1; reportOf(1, 3) = 5; reportOf(2, 3) = 2; reportOf(3, 3) = 1
                reportOf(3, 8) = 1; reportOf(4, 3) = 4; reportOf(5, 3) = 0; reportOf(6, 3) = 1; reportOf(7, 3) = 3
                reportOf(7, 10) = 1; reportOf(7, 11) = 1; reportOf(7, 12) = 0; count(2) = 0; count(16) = 8
                """);
    }

    private static void addAsset() {
        Script.run("addAsset: an argument out of range ahead of no room", "addAsset(1, 1)\n".repeat(6), """
                addAsset(0, 0) = INVALID; addAsset(10, 0) = INVALID; addAsset(1, -1) = INVALID; addAsset(1, 10001) = INVALID
                addAsset(MIN, MAX) = INVALID; addAsset(1, 0) = FULL
                """);
    }

    private static void fill() {
        Script.run("fill: an amount out of range ahead of too much", "fill(100000)\n".repeat(10), """
                fill(0) = INVALID; fill(-1) = INVALID; fill(100001) = INVALID; fill(MAX) = INVALID; fill(MIN) = INVALID
                fill(1) = ILLEGAL; fill(100000) = ILLEGAL
                """);
    }

    private static void report() {
        Script.run("report: an argument out of range ahead of no room", "addAsset(1, 1); addHunter()\n",
                "report(0, 0, 0)\n".repeat(40), """
                report(1, 0, 0) = INVALID; report(-1, 0, 0) = INVALID; report(0, 1, 0) = INVALID; report(0, -1, 0) = INVALID
                report(0, 0, 100) = INVALID; report(0, 0, -1) = INVALID; report(MAX, MIN, MAX) = INVALID
                report(0, 0, 0) = FULL; report(0, 0, 99) = FULL
                """);
    }

    private static void fold() {
        Script.run("fold: no such report, not new, none into which it can be folded", DESK, """
                fold(8) = INVALID; fold(-1) = INVALID; fold(0) = ILLEGAL; fold(1) = ILLEGAL; fold(2) = ILLEGAL; fold(3) = ILLEGAL
                fold(4) = ILLEGAL; fold(5) = ILLEGAL; fold(6) = ILLEGAL; fold(7) = ILLEGAL
                """);
    }

    private static void grade() {
        Script.run("grade: an argument out of range ahead of not new", DESK, """
                grade(8, 1) = INVALID; grade(8, 5) = INVALID; grade(0, 0) = INVALID; grade(1, 5) = INVALID; grade(2, 0) = INVALID
                grade(3, 5) = INVALID; grade(4, 0) = INVALID; grade(6, 5) = INVALID; grade(5, 0) = INVALID; grade(5, 5) = INVALID
                grade(0, 1) = ILLEGAL; grade(1, 4) = ILLEGAL; grade(2, 1) = ILLEGAL; grade(3, 4) = ILLEGAL; grade(4, 1) = ILLEGAL
                grade(6, 4) = ILLEGAL; grade(7, 1) = ILLEGAL; grade(5, 4) = 160
                """);
    }

    private static void refuse() {
        Script.run("refuse: no such report, then its state and its appeal", DESK, """
                refuse(8) = INVALID; refuse(-1) = INVALID; refuse(0) = ILLEGAL; refuse(1) = ILLEGAL; refuse(3) = ILLEGAL
                refuse(4) = ILLEGAL; refuse(7) = ILLEGAL; refuse(2) = 0; refuse(5) = 0; refuse(6) = 0
                """);
    }

    private static void appeal() {
        Script.run("appeal: an argument out of range ahead of all that is not possible", DESK, """
                appeal(8, 2) = INVALID; appeal(8, 5) = INVALID; appeal(-1, 1) = INVALID; appeal(0, 1) = INVALID; appeal(1, 5) = INVALID
                appeal(2, 1) = INVALID; appeal(3, 5) = INVALID; appeal(4, 1) = INVALID; appeal(5, 5) = INVALID; appeal(6, 1) = INVALID
                appeal(0, 4) = ILLEGAL; appeal(1, 4) = ILLEGAL; appeal(2, 2) = ILLEGAL; appeal(3, 4) = ILLEGAL; appeal(3, 2) = ILLEGAL
                appeal(4, 4) = ILLEGAL; appeal(5, 4) = ILLEGAL; appeal(6, 3) = ILLEGAL; appeal(7, 4) = ILLEGAL
                """);
    }

    private static void decide() {
        Script.run("decide: no such report, then no open appeal, then the severity", DESK, """
                decide(8, 1) = INVALID; decide(8, 9) = INVALID; decide(-1, -1) = INVALID; decide(MAX, MAX) = INVALID
                decide(0, 0) = ILLEGAL; decide(1, 5) = ILLEGAL; decide(2, MIN) = ILLEGAL; decide(4, MAX) = ILLEGAL
                decide(5, 0) = ILLEGAL; decide(6, -1) = ILLEGAL; decide(6, 3) = ILLEGAL; decide(7, 5) = ILLEGAL
                decide(3, 0) = INVALID; decide(3, 4) = INVALID; decide(3, MIN) = INVALID; decide(3, MAX) = INVALID
                decide(3, 1) = 0; decide(3, 0) = ILLEGAL; decide(3, 4) = ILLEGAL; decide(3, 1) = ILLEGAL
                """);
    }

    private static void pay() {
        Script.run("pay: no such report, then its state and its appeal", DESK, """
                pay(8) = INVALID; pay(-1) = INVALID; pay(0) = ILLEGAL; pay(1) = ILLEGAL; pay(3) = ILLEGAL; pay(4) = ILLEGAL
                pay(5) = ILLEGAL; pay(7) = ILLEGAL; pay(2) = 0; pay(6) = 0
                """);
    }

    private static void retest() {
        Script.run("retest: an argument out of range ahead of all that is not possible", DESK, """
                retest(5, 0, 1) = INVALID; retest(-1, 5, 1) = INVALID; retest(4, 8, 1) = INVALID; retest(0, -1, 0) = INVALID
                retest(4, 5, 2) = INVALID; retest(4, 0, 2) = INVALID; retest(0, 7, 2) = INVALID; retest(2, 7, -1) = INVALID
                retest(1, 0, -1) = INVALID; retest(5, 8, 2) = INVALID
                retest(4, 0, 1) = ILLEGAL; retest(4, 1, 1) = ILLEGAL; retest(4, 2, 1) = ILLEGAL; retest(4, 3, 1) = ILLEGAL
                retest(4, 4, 1) = ILLEGAL; retest(4, 5, 1) = ILLEGAL; retest(1, 6, 1) = ILLEGAL; retest(0, 7, 1) = ILLEGAL
                retest(2, 7, 0) = ILLEGAL; retest(3, 7, 1) = ILLEGAL; retest(4, 7, 1) = 1; retest(1, 7, 1) = ILLEGAL
                """);
    }

    private static void pass() {
        Script.run("pass: days out of range ahead of too late", "pass(400)\n".repeat(24), "pass(399)\n", """
                pass(0) = INVALID; pass(-1) = INVALID; pass(401) = INVALID; pass(MAX) = INVALID; pass(MIN) = INVALID
                pass(1) = ILLEGAL; pass(400) = ILLEGAL
                """);
    }

    private static void looks() {
        Script.run("looks: one error for all", DESK, """
                asset(2, 5) = INVALID; asset(-1, -1) = INVALID; hunter(5, 6) = INVALID; hunter(-1, -1) = INVALID
                reportOf(8, 13) = INVALID; reportOf(-1, -1) = INVALID; count(17) = INVALID
                """);
        Script.run("paidIn: no such report, then that it does not wait, then NONE", DESK, """
                paidIn(8) = INVALID; paidIn(-1) = INVALID; paidIn(0) = ILLEGAL; paidIn(1) = ILLEGAL; paidIn(3) = ILLEGAL
                paidIn(4) = ILLEGAL; paidIn(5) = ILLEGAL; paidIn(6) = ILLEGAL; paidIn(7) = ILLEGAL; paidIn(2) = 450
                appeal(2, 3); paidIn(2) = NONE
                """);
    }

    private static void noneIsNoError() {
        Script.run("NONE is returned only if no error condition applies", DESK, """
                original(8) = INVALID; original(-1) = INVALID; original(0) = NONE; original(1) = NONE; original(5) = NONE
                reportOf(8, 4) = INVALID; reportOf(8, 5) = INVALID; reportOf(8, 7) = INVALID; reportOf(5, 4) = NONE
                reportOf(5, 5) = NONE; reportOf(5, 7) = NONE; best(-1) = INVALID; best(5) = NONE; best(4) = 2
                """);
    }
}
