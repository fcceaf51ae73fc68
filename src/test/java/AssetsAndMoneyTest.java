/** Promises 1 to 6: a new object, addAsset, addHunter, fill, setRate, setBonus. */
public final class AssetsAndMoneyTest {
    public static void main(String[] args) {
        aNewObject();
        addAsset();
        addHunter();
        fill();
        fillAboveTheLimit();
        setRate();
        setBonus();
        Script.end();
    }

    private static void aNewObject() {
        StringBuilder allCounts = new StringBuilder();
        for (int what = 0; what <= 16; what++) {
            allCounts.append("count(").append(what).append(") = 0\n");
        }
        Script.run("a new object", allCounts.toString(), """
                asset(0, 0) = INVALID
                hunter(0, 0) = INVALID
                reportOf(0, 0) = INVALID
                lack() = 0; best(0) = NONE; undo() = ILLEGAL
                setRate(100) = 100; setBonus(20) = 20
                """);
    }

    private static void addAsset() {
        Script.run("addAsset", """
                addAsset(0, 5) = INVALID; addAsset(10, 5) = INVALID
                addAsset(MIN, 5) = INVALID; addAsset(MAX, 5) = INVALID
                addAsset(1, -1) = INVALID; addAsset(1, 10001) = INVALID
                addAsset(1, MIN) = INVALID; addAsset(1, MAX) = INVALID
                count(3) = 0
                addAsset(1, 0) = 0; addAsset(9, 10000) = 1
                addAsset(5, 70) = 2; addAsset(5, 70) = 3
                asset(0, 0) = 1; asset(0, 1) = 0; asset(0, 2) = 0
                asset(1, 0) = 9; asset(1, 1) = 10000; asset(1, 2) = 10000
                asset(2, 0) = 5; asset(2, 1) = 70; asset(2, 2) = 70
                count(3) = 4; count(12) = 10140; count(2) = 0
                addAsset(2, 1) = 4; addAsset(2, 1) = 5
                addAsset(2, 1) = FULL
                addAsset(0, 1) = INVALID; addAsset(2, 10001) = INVALID
                undo() = 5; addAsset(3, 2) = 5; asset(5, 0) = 3; addAsset(3, 2) = FULL
                """);
    }

    private static void addHunter() {
        Script.run("addHunter", """
                addHunter() = 0; addHunter() = 1; addHunter() = 2; addHunter() = 3
                addHunter() = 4; addHunter() = 5; addHunter() = 6; addHunter() = 7
                count(4) = 8; addHunter() = FULL; count(4) = 8
                hunter(7, 0) = 0; hunter(7, 1) = 0; hunter(7, 2) = 0
                hunter(7, 3) = 0; hunter(7, 4) = 0; hunter(7, 5) = 0
                """);
        Script.run("a hunter who is added anew has nothing of the one undone", """
                addAsset(1, 500); addHunter(); addHunter(); report(1, 0, 1); grade(0, 2)
                appeal(0, 3); decide(0, 3); pay(0)
                hunter(1, 1) = 90; hunter(1, 3) = 1
                undo(); undo(); undo(); undo(); undo(); undo() = 2
                addHunter() = 1
                hunter(1, 0) = 0; hunter(1, 1) = 0; hunter(1, 2) = 0; hunter(1, 3) = 0
                """);
    }

    private static void fill() {
        Script.run("fill", """
                fill(0) = INVALID; fill(-1) = INVALID; fill(100001) = INVALID
                fill(MIN) = INVALID; fill(MAX) = INVALID
                fill(1) = 1; fill(100000) = 100001; count(2) = 100001; count(12) = 0
                """);
        Script.run("fill up to the limit", "fill(100000)\n".repeat(9), """
                fill(99999) = 999999
                fill(2) = ILLEGAL; fill(0) = INVALID; fill(100001) = INVALID
                fill(1) = 1000000; fill(1) = ILLEGAL; count(2) = 1000000
                """);
    }

    private static void fillAboveTheLimit() {
        Script.run("a quarter brings the reserve above the limit of fill", """
                addAsset(1, 10000); addAsset(1, 10000)
                """, "fill(100000)\n".repeat(10), """
                pass(180) = 0; count(2) = 1020000; fill(1) = ILLEGAL; fill(0) = INVALID
                """);
    }

    private static void setRate() {
        Script.run("setRate", """
                setRate(49) = INVALID; setRate(201) = INVALID
                setRate(MIN) = INVALID; setRate(MAX) = INVALID
                setRate(50) = 100; setRate(200) = 50; setRate(200) = 200; setRate(100) = 200
                addAsset(3, 0); addHunter(); report(0, 0, 1)
                setRate(55) = 100; grade(0, 1) = 16; reportOf(0, 7) = 16
                setRate(199) = 55; reportOf(0, 7) = 59
                """);
    }

    private static void setBonus() {
        Script.run("setBonus", """
                setBonus(-1) = INVALID; setBonus(501) = INVALID
                setBonus(MIN) = INVALID; setBonus(MAX) = INVALID
                setBonus(0) = 20; setBonus(500) = 0; setBonus(500) = 500; setBonus(7) = 500
                """);
    }
}
