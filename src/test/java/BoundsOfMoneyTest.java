/** The boundary sentences of "Assets and money" and of promises 1 to 6. The titles are the sentences. */
public final class BoundsOfMoneyTest {
    private static final String NEARLY_FULL = "fill(100000)\n".repeat(9);

    public static void main(String[] args) {
        aNewObject();
        weights();
        allowances();
        mostAssets();
        mostHunters();
        amounts();
        mostReserve();
        mostReserveAndPools();
        oneReserveForAll();
        rates();
        bonuses();
        quarterDays();
        noAllowanceBeforeTheFirstQuarterEnds();
        whatIsAboveTheAllowance();
        allowancesAtTheirEnds();
        anAssetAddedLater();
        Script.end();
    }

    private static void aNewObject() {
        Script.run("a desk without assets and hunters, with an empty reserve, on day 0", """
                count(3) = 0; count(4) = 0; count(5) = 0; count(2) = 0; count(12) = 0
                count(0) = 0; count(1) = 0; count(13) = 0; count(14) = 0; count(15) = 0; count(16) = 0
                asset(0, 0) = INVALID; hunter(0, 0) = INVALID; reportOf(0, 0) = INVALID
                """);
        Script.run("the rate is at first 100", "setRate(100) = 100; setRate(50) = 100");
        Script.run("the bonus is at first 20", "setBonus(20) = 20; setBonus(0) = 20");
        Script.run("no deed is remembered at first", "undo() = ILLEGAL; count(16) = 0; undo() = ILLEGAL");
    }

    private static void weights() {
        Script.refused("weight: 1 to 9", "", "addAsset(?, 5)", 1, 9, "INVALID");
        Script.run("the weights 1 and 9 are taken", """
                addAsset(1, 5) = 0; asset(0, 0) = 1; addAsset(9, 5) = 1; asset(1, 0) = 9
                addAsset(2, 5) = 2; asset(2, 0) = 2; addAsset(8, 5) = 3; asset(3, 0) = 8
                """);
    }

    private static void allowances() {
        Script.refused("allowance: 0 to 10000", "", "addAsset(1, ?)", 0, 10000, "INVALID");
        Script.run("the allowances 0 and 10000 are taken, and are in the pool", """
                addAsset(1, 0) = 0; asset(0, 1) = 0; asset(0, 2) = 0
                addAsset(1, 10000) = 1; asset(1, 1) = 10000; asset(1, 2) = 10000
                addAsset(1, 1) = 2; asset(2, 1) = 1; asset(2, 2) = 1
                addAsset(1, 9999) = 3; asset(3, 1) = 9999; asset(3, 2) = 9999; count(12) = 20000
                """);
        Script.run("the first allowance does not come from the reserve", """
                fill(100) = 100; addAsset(1, 60) = 0; count(2) = 100; count(12) = 60
                """);
    }

    private static void mostAssets() {
        Script.run("at most 6 assets, numbered from 0", """
                addAsset(1, 1) = 0; addAsset(2, 2) = 1; addAsset(3, 3) = 2; addAsset(4, 4) = 3; addAsset(5, 5) = 4
                asset(5, 0) = INVALID; addAsset(6, 6) = 5; asset(5, 0) = 6; asset(6, 0) = INVALID
                addAsset(7, 7) = FULL; addAsset(1, 0) = FULL; addAsset(9, 10000) = FULL; count(3) = 6
                undo() = 5; asset(5, 0) = INVALID; addAsset(9, 10000) = 5; addAsset(7, 7) = FULL
                """);
    }

    private static void mostHunters() {
        Script.run("at most 8 hunters, numbered from 0", """
                hunter(0, 0) = INVALID; addHunter() = 0; hunter(0, 0) = 0; hunter(1, 0) = INVALID
                addHunter() = 1; addHunter() = 2; addHunter() = 3; addHunter() = 4; addHunter() = 5; addHunter() = 6
                hunter(7, 0) = INVALID; addHunter() = 7; hunter(7, 0) = 0; hunter(8, 0) = INVALID
                addHunter() = FULL; addHunter() = FULL; count(4) = 8; count(16) = 8
                undo() = 7; count(4) = 7; addHunter() = 7; addHunter() = FULL
                """);
    }

    private static void amounts() {
        Script.refused("amount: 1 to 100000", "", "fill(?)", 1, 100000, "INVALID");
        Script.run("the amounts 1 and 100000 are taken, and the reserve then is answered", """
                fill(1) = 1; fill(100000) = 100001; fill(2) = 100003; fill(99999) = 200002; count(2) = 200002
                """);
    }

    private static void mostReserve() {
        Script.run("a reserve of 1000000 is taken", NEARLY_FULL, """
                fill(100000) = 1000000; fill(1) = ILLEGAL; fill(100000) = ILLEGAL; count(2) = 1000000
                """);
        Script.run("a reserve of 1000001 is refused", NEARLY_FULL, """
                fill(1) = 900001; fill(100000) = ILLEGAL; count(2) = 900001; fill(99999) = 1000000
                """);
        Script.run("one less than full has room for 1", NEARLY_FULL, """
                fill(99999) = 999999; fill(2) = ILLEGAL; fill(100000) = ILLEGAL; fill(1) = 1000000; fill(1) = ILLEGAL
                """);
    }

    private static void mostReserveAndPools() {
        Script.run("pools don't count for the limit of the reserve", """
                addAsset(1, 10000) = 0; addAsset(1, 10000) = 1
                """, NEARLY_FULL, "fill(100000) = 1000000; count(12) = 20000");
        Script.run("what was taken from a full reserve can be filled again", """
                addAsset(1, 0); addHunter(); report(0, 0, 1); grade(0, 1)
                """, NEARLY_FULL, """
                fill(100000) = 1000000; pay(0) = 10; count(2) = 999990
                fill(11) = ILLEGAL; fill(9) = 999999; fill(1) = 1000000; fill(1) = ILLEGAL
                """);
        Script.run("the quarters bring the reserve above what can be filled", """
                addAsset(1, 10000)
                """, NEARLY_FULL, """
                fill(90000) = 990000; pass(90) = 0; fill(10001) = ILLEGAL; pass(90) = 0; count(2) = 1000000
                fill(1) = ILLEGAL; pass(90) = 0; count(2) = 1010000; fill(1) = ILLEGAL; fill(100000) = ILLEGAL
                """);
    }

    private static void oneReserveForAll() {
        Script.run("there is one reserve for all", """
                addAsset(1, 0); addAsset(2, 0); addHunter(); report(0, 0, 1); report(0, 1, 1); grade(0, 1); grade(1, 1)
                fill(30) = 30; pay(0) = 10; count(2) = 20; pay(1) = 20; count(2) = 0
                """);
    }

    private static void rates() {
        Script.refused("rate: 50 to 200", "", "setRate(?)", 50, 200, "INVALID");
        Script.run("the rates 50 and 200 are taken, and the previous rate is answered", """
                setRate(50) = 100; setRate(200) = 50; setRate(51) = 200; setRate(199) = 51; setRate(199) = 199
                """);
        Script.run("a refused rate is not the previous one", """
                setRate(49) = INVALID; setRate(50) = 100; setRate(201) = INVALID; setRate(60) = 50
                """);
    }

    private static void bonuses() {
        Script.refused("bonus: 0 to 500", "", "setBonus(?)", 0, 500, "INVALID");
        Script.run("the bonuses 0 and 500 are taken, and the previous bonus is answered", """
                setBonus(0) = 20; setBonus(500) = 0; setBonus(1) = 500; setBonus(499) = 1; setBonus(499) = 499
                """);
        Script.run("a refused bonus is not the previous one", """
                setBonus(-1) = INVALID; setBonus(0) = 20; setBonus(501) = INVALID; setBonus(60) = 0
                """);
    }

    private static void quarterDays() {
        Script.run("a quarter is 90 days (days 0 to 89 are the quarter 0)", """
                count(0) = 0; count(1) = 0; pass(88) = 0; count(1) = 0; pass(1) = 0; count(0) = 89; count(1) = 0
                pass(1) = 0; count(0) = 90; count(1) = 1; pass(89) = 0; count(0) = 179; count(1) = 1
                pass(1) = 0; count(0) = 180; count(1) = 2; pass(90) = 0; count(1) = 3
                """);
    }

    private static void noAllowanceBeforeTheFirstQuarterEnds() {
        Script.run("at the beginning of each quarter after the first one", """
                addAsset(1, 7) = 0; asset(0, 2) = 7; pass(89) = 0; asset(0, 2) = 7; count(2) = 0
                pass(1) = 0; asset(0, 2) = 14; count(2) = 0; pass(1) = 0; asset(0, 2) = 14
                pass(88) = 0; asset(0, 2) = 14; count(2) = 0; pass(1) = 0; asset(0, 2) = 14; count(2) = 7
                """);
        Script.run("each quarter that begins in one call counts", """
                addAsset(1, 10); pass(359) = 0; asset(0, 2) = 20; count(2) = 20
                undo(); pass(360) = 0; asset(0, 2) = 20; count(2) = 30
                undo(); pass(90) = 0; count(2) = 0; undo(); pass(89); pass(91) = 0; count(2) = 10; count(1) = 2
                undo(); pass(92) = 0; count(0) = 181; count(2) = 10; pass(400) = 0; count(0) = 581; count(2) = 50
                """);
    }

    private static void whatIsAboveTheAllowance() {
        String paidOnce = "addHunter(); report(0, 0, 1); grade(0, 1); pass(90); pay(0) = 10\n";
        Script.run("a pool of the allowance stays whole", "addAsset(1, 10)\n", paidOnce, """
                asset(0, 2) = 10; count(2) = 0; pass(90) = 0; asset(0, 2) = 20; count(2) = 0
                """);
        Script.run("of a pool of 1 above the allowance, 1 goes to the reserve", "addAsset(1, 11)\n", paidOnce, """
                asset(0, 2) = 12; count(2) = 0; pass(90) = 0; asset(0, 2) = 22; count(2) = 1
                """);
        Script.run("a pool of 1 below the allowance stays whole", "addAsset(1, 9)\n", paidOnce, """
                asset(0, 2) = 8; count(2) = 0; pass(90) = 0; asset(0, 2) = 17; count(2) = 0
                """);
        Script.run("an empty pool gets the allowance alone", "addAsset(1, 10); addHunter(); report(0, 0, 1)\n", """
                grade(0, 1); pay(0) = 10; asset(0, 2) = 0; pass(90) = 0; asset(0, 2) = 10; count(2) = 0
                """);
        Script.run("each asset has its own allowance", "addAsset(1, 10); addAsset(1, 0); addAsset(1, 300)\n", """
                pass(90) = 0; asset(0, 2) = 20; asset(1, 2) = 0; asset(2, 2) = 600; count(2) = 0
                pass(90) = 0; asset(0, 2) = 20; asset(1, 2) = 0; asset(2, 2) = 600; count(2) = 310; count(12) = 620
                """);
    }

    private static void allowancesAtTheirEnds() {
        Script.run("an allowance of 0 brings nothing", """
                addAsset(1, 0); pass(400) = 0; asset(0, 2) = 0; count(2) = 0; count(12) = 0
                """);
        Script.run("an allowance of 10000 brings 10000", """
                addAsset(1, 10000); pass(90) = 0; asset(0, 2) = 20000; count(2) = 0
                pass(90) = 0; asset(0, 2) = 20000; count(2) = 10000
                """);
        Script.run("a desk without assets gets nothing", "fill(5); pass(400) = 0; count(2) = 5; count(12) = 0");
    }

    private static void anAssetAddedLater() {
        Script.run("an asset has its allowance at once, and again when the next quarter begins", """
                pass(89); addAsset(1, 10) = 0; asset(0, 2) = 10; pass(1) = 0; asset(0, 2) = 20
                addAsset(1, 30) = 1; asset(1, 2) = 30; pass(89) = 0; asset(1, 2) = 30
                pass(1) = 0; asset(0, 2) = 20; asset(1, 2) = 60; count(2) = 10
                """);
    }
}
