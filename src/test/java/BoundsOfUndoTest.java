/** The boundary sentences of "Undo", of promise 16, and of the 512 calls. The titles are the sentences. */
public final class BoundsOfUndoTest {
    private static final String DESK = """
            addAsset(1, 100); addHunter(); addHunter(); addHunter(); report(0, 0, 1); report(1, 0, 1); fill(500)
            """;

    public static void main(String[] args) {
        none();
        fewerThanEight();
        justEight();
        moreThanEight();
        manyMoreThanEight();
        betweenUndos();
        eachKindOfDeed();
        eachKindThatChangesNothing();
        refusedCallsAreNone();
        looksAreNone();
        undoIsNone();
        backToAnEmptyDesk();
        all512Calls();
        Script.end();
    }

    private static void none() {
        Script.run("ILLEGAL_STATE if none is remembered", """
                undo() = ILLEGAL; undo() = ILLEGAL; fill(0) = INVALID; undo() = ILLEGAL; count(16) = 0
                fill(7) = 7; undo() = 0; undo() = ILLEGAL; count(2) = 0
                """);
    }

    private static void fewerThanEight() {
        Script.run("the number of deeds that are remembered then", """
                fill(1); count(16) = 1; undo() = 0; fill(1); fill(2); count(16) = 2; undo() = 1; undo() = 0
                undo() = ILLEGAL; fill(1); fill(2); fill(3); fill(4); fill(5); fill(6); fill(7) = 28; count(16) = 7
                undo() = 6; count(2) = 21; undo() = 5; count(2) = 15; undo() = 4; undo() = 3; undo() = 2; undo() = 1
                count(2) = 1; undo() = 0; count(2) = 0; undo() = ILLEGAL
                """);
    }

    private static void justEight() {
        Script.run("eight are remembered", "fill(1)\n".repeat(7), """
                count(16) = 7; fill(1) = 8; count(16) = 8; undo() = 7; undo() = 6; undo() = 5; undo() = 4; undo() = 3
                undo() = 2; undo() = 1; count(2) = 1; undo() = 0; count(2) = 0; undo() = ILLEGAL; count(2) = 0
                """);
    }

    private static void moreThanEight() {
        Script.run("of nine the latest eight are remembered", "fill(1)\n".repeat(8), """
                fill(1) = 9; count(16) = 8; undo() = 7; undo() = 6; undo() = 5; undo() = 4; undo() = 3
                undo() = 2; undo() = 1; undo() = 0; count(2) = 1; undo() = ILLEGAL; count(2) = 1; count(16) = 0
                """);
    }

    private static void manyMoreThanEight() {
        for (int deeds : new int[] {15, 16, 17, 24, 25, 63}) {
            StringBuilder run = new StringBuilder("fill(1)\n".repeat(deeds));
            for (int left = 7; left >= 0; left--) {
                run.append("undo() = ").append(left).append("; count(2) = ").append(deeds - 8 + left).append('\n');
            }
            run.append("undo() = ILLEGAL; fill(3) = ").append(deeds - 5).append("; undo() = 0; undo() = ILLEGAL\n");
            Script.run("of " + deeds + " the latest eight are remembered", run.toString());
        }
    }

    private static void betweenUndos() {
        Script.run("an undone deed is forgotten", """
                fill(1); fill(2); fill(4) = 7; undo() = 2; fill(8) = 11; undo() = 2; count(2) = 3; undo() = 1; count(2) = 1
                fill(16) = 17; undo() = 1; undo() = 0; count(2) = 0
                """);
        Script.run("undone ones leave room for as many", "fill(1)\n".repeat(10), """
                undo(); undo(); undo() = 5; fill(100); fill(100); fill(100) = 307; count(16) = 8; fill(100) = 407
                count(16) = 8; undo() = 7; undo() = 6; undo() = 5; undo() = 4; count(2) = 7; undo() = 3; undo() = 2
                undo() = 1; undo() = 0; count(2) = 3; undo() = ILLEGAL
                """);
        Script.run("five, three undone, eight more", "fill(1)\n".repeat(5), """
                undo(); undo(); undo() = 2; count(2) = 2
                """, "fill(10)\n".repeat(8), """
                count(2) = 82; undo() = 7; undo(); undo(); undo(); undo(); undo(); undo() = 1; undo() = 0; count(2) = 2
                undo() = ILLEGAL
                """);
    }

    /** That all is as it was before is tested by Script behind each deed with an answer. */
    private static void eachKindOfDeed() {
        Script.run("addAsset, addHunter, fill, setRate, setBonus are deeds", DESK, """
                addAsset(3, 30) = 1; undo(); count(3) = 1; addHunter() = 3; undo(); count(4) = 3
                fill(20) = 520; undo(); count(2) = 500; setRate(70) = 100; undo(); setRate(100) = 100
                setBonus(70) = 20; undo(); setBonus(20) = 20
                """);
        Script.run("report, fold, grade, refuse are deeds", DESK, """
                report(2, 0, 5) = 2; undo(); count(5) = 2; fold(1) = 0; undo(); reportOf(1, 3) = 0; original(1) = 0
                grade(0, 4) = 160; undo(); reportOf(0, 3) = 0; reportOf(0, 4) = NONE
                fold(1); refuse(0) = 1; undo(); reportOf(0, 3) = 0; reportOf(1, 5) = 0; reportOf(0, 6) = 1
                """);
        Script.run("appeal, decide are deeds", DESK, """
                grade(0, 2); appeal(0, 4) = 160; undo(); reportOf(0, 8) = 0; count(15) = 0; appeal(0, 3) = 90
                decide(0, 3) = 2; undo(); reportOf(0, 4) = 2; reportOf(0, 8) = 1; hunter(0, 3) = 0; count(15) = 1
                decide(0, 2) = 0; undo(); hunter(0, 4) = 0; decide(0, 4) = INVALID; decide(0, 1) = INVALID; decide(0, 3) = 2
                """);
        Script.run("pay, retest are deeds", DESK, """
                fold(1); grade(0, 4); pay(0) = 160; undo(); reportOf(0, 3) = 1; asset(0, 2) = 100; count(2) = 500
                hunter(0, 1) = 0; hunter(1, 1) = 0; count(13) = 0; reportOf(0, 9) = 0; pay(0) = 160; addHunter()
                retest(2, 0, 0) = 0; undo(); reportOf(0, 11) = 0; retest(2, 0, 0) = 0; retest(3, 0, 0) = 2; undo()
                reportOf(0, 3) = 3; reportOf(0, 11) = 1; reportOf(1, 5) = 0; hunter(2, 5) = 0; count(14) = 0; count(2) = 440
                retest(3, 0, 1) = 0; undo(); undo(); retest(2, 0, 1) = 0; retest(3, 0, 1) = 1; undo(); reportOf(0, 12) = 0
                """);
        Script.run("pass is a deed", DESK, """
                setRate(200); grade(0, 4); refuse(1); undo(); grade(1, 4); pay(0) = 320; pay(1) = 0; pass(400) = 1
                undo(); count(0) = 0; asset(0, 2) = 0; count(2) = 280; reportOf(1, 3) = 2; hunter(1, 1) = 0; count(13) = 320
                pass(1) = 0; undo(); count(0) = 0
                """);
    }

    private static void eachKindThatChangesNothing() {
        Script.run("also if nothing changes by it", """
                setRate(100) = 100; count(16) = 1; setBonus(20) = 20; count(16) = 2; setRate(60) = 100; setRate(60) = 60
                count(16) = 4; undo() = 3; setRate(60) = 60; undo() = 3; undo() = 2; setRate(100) = 100; undo() = 2
                undo() = 1; undo() = 0; undo() = ILLEGAL
                """);
        Script.run("also if it waits as before", """
                addAsset(1, 0); addHunter(); report(0, 0, 1); grade(0, 1); pay(0) = 0; count(16) = 5
                pay(0) = 0; pay(0) = 0; count(16) = 7; undo() = 6; undo() = 5; reportOf(0, 3) = 2; undo() = 4
                reportOf(0, 3) = 1
                """);
        Script.run("eight that change nothing make all else forgotten", "fill(5)\n", "setBonus(20)\n".repeat(8), """
                undo(); undo(); undo(); undo(); undo(); undo(); undo(); undo() = 0; undo() = ILLEGAL; count(2) = 5
                """);
    }

    private static void refusedCallsAreNone() {
        Script.run("a call that returns an error code is no deed", "fill(1)\n".repeat(9), """
                addAsset(0, 0) = INVALID; addAsset(1, 10001) = INVALID; fill(0) = INVALID; fill(100001) = INVALID
                setRate(49) = INVALID; setBonus(501) = INVALID; report(0, 0, 0) = INVALID; fold(0) = INVALID
                grade(0, 1) = INVALID; refuse(0) = INVALID; appeal(0, 2) = INVALID; decide(0, 1) = INVALID
                pay(0) = INVALID; retest(0, 0, 0) = INVALID; pass(0) = INVALID; pass(401) = INVALID
                count(16) = 8; undo() = 7; undo() = 6; fill(0) = INVALID; undo() = 5; undo() = 4; undo() = 3; undo() = 2
                pass(401) = INVALID; undo() = 1; undo() = 0; count(2) = 1; fill(0) = INVALID; undo() = ILLEGAL; count(2) = 1
                """);
        Script.run("a refused deed on a desk that has reports is none", DESK, """
                fold(0) = ILLEGAL; appeal(0, 2) = ILLEGAL; decide(0, 1) = ILLEGAL; pay(0) = ILLEGAL; retest(2, 0, 1) = ILLEGAL
                grade(0, 5) = INVALID; count(16) = 7; undo() = 6; count(2) = 0; refuse(2) = INVALID; undo() = 5
                count(5) = 1; fold(1) = INVALID; undo() = 4; count(5) = 0
                """);
    }

    private static void looksAreNone() {
        Script.run("a call that tells only is no deed", DESK, """
                count(2) = 500; asset(0, 0) = 1; hunter(0, 0) = 1; reportOf(0, 0) = 0; original(1) = 0; lack() = 0
                best(0) = 0; grade(0, 4) = 160; setRate(200); appeal(0, 4) = ILLEGAL; undo(); undo(); pass(90); undo()
                setRate(200); grade(0, 4) = 320; undo() = 7; count(16) = 7; paidIn(0) = ILLEGAL; count(16) = 7
                """);
        Script.run("paidIn is no deed", """
                addAsset(1, 5); addHunter(); report(0, 0, 1); grade(0, 1); pay(0) = 0; paidIn(0) = 90; paidIn(0) = 90
                count(16) = 5; count(0) = 0; asset(0, 2) = 5; undo() = 4; reportOf(0, 3) = 1; undo() = 3
                """);
    }

    private static void undoIsNone() {
        Script.run("undo is no deed, so it can't be undone", """
                fill(1); fill(2); undo() = 1; undo() = 0; undo() = ILLEGAL; count(2) = 0; fill(3) = 3; undo() = 0; count(2) = 0
                """);
    }

    private static void backToAnEmptyDesk() {
        Script.run("back to an empty desk, and anew", """
                addAsset(9, 90); addHunter(); fill(9); setRate(199); setBonus(9); report(0, 0, 9); grade(0, 4); pass(9)
                undo(); undo(); undo(); undo(); undo(); undo(); undo(); undo() = 0; undo() = ILLEGAL
                count(0) = 0; count(2) = 0; count(3) = 0; count(4) = 0; count(5) = 0; count(12) = 0
                addAsset(1, 10) = 0; addHunter() = 0; report(0, 0, 1) = 0; reportOf(0, 3) = 0; reportOf(0, 4) = NONE
                setRate(100) = 100; setBonus(20) = 20; grade(0, 1) = 10
                """);
    }

    /** Without Script, whose further desks would be called more than 512 times. */
    private static void all512Calls() {
        BountyDesk deeds = new BountyDesk();
        for (int i = 1; i <= 511; i++) {
            Script.same("deed " + i, "" + deeds.fill(1), "" + i);
        }
        Script.same("call 512, a deed", "" + deeds.fill(1), "512");
        BountyDesk undone = new BountyDesk();
        for (int i = 1; i <= 504; i++) {
            undone.fill(1);
        }
        for (int left = 7; left >= 0; left--) {
            Script.same("undo behind 504 deeds", "" + undone.undo(), "" + left);
        }
        BountyDesk looks = new BountyDesk();
        for (int i = 1; i <= 508; i++) {
            looks.fill(1);
        }
        for (int left = 7; left >= 5; left--) {
            Script.same("undo behind 508 deeds", "" + looks.undo(), "" + left);
        }
        Script.same("call 512, a look", "" + looks.count(2), "505");
    }
}
