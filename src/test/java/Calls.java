import java.util.ArrayList;
import java.util.List;

/** Calls on a desk, told by their names and arguments. */
final class Calls {
    static final List<String> DEEDS = List.of("addAsset", "addHunter", "fill", "setRate", "setBonus",
            "report", "fold", "grade", "refuse", "appeal", "decide", "pay", "retest", "pass");

    private Calls() {
    }

    static int answer(BountyDesk x, String name, int... a) {
        switch (name) {
            case "addAsset": return x.addAsset(a[0], a[1]);
            case "addHunter": return x.addHunter();
            case "fill": return x.fill(a[0]);
            case "setRate": return x.setRate(a[0]);
            case "setBonus": return x.setBonus(a[0]);
            case "report": return x.report(a[0], a[1], a[2]);
            case "fold": return x.fold(a[0]);
            case "grade": return x.grade(a[0], a[1]);
            case "refuse": return x.refuse(a[0]);
            case "appeal": return x.appeal(a[0], a[1]);
            case "decide": return x.decide(a[0], a[1]);
            case "pay": return x.pay(a[0]);
            case "retest": return x.retest(a[0], a[1], a[2]);
            case "pass": return x.pass(a[0]);
            case "undo": return x.undo();
            case "count": return x.count(a[0]);
            case "asset": return x.asset(a[0], a[1]);
            case "hunter": return x.hunter(a[0], a[1]);
            case "reportOf": return x.reportOf(a[0], a[1]);
            case "original": return x.original(a[0]);
            case "lack": return x.lack();
            case "best": return x.best(a[0]);
            case "paidIn": return x.paidIn(a[0]);
            default: throw new IllegalArgumentException("no such call: " + name);
        }
    }

    static boolean isError(int answer) {
        return answer == BountyDesk.INVALID_ARGUMENT || answer == BountyDesk.ILLEGAL_STATE
                || answer == BountyDesk.CAPACITY_EXCEEDED;
    }

    /** Every look that can tell something of a desk with so many rows. */
    static List<Call> looks(int assets, int hunters, int reports) {
        List<Call> looks = new ArrayList<>();
        add(looks, "count", 17);
        add(looks, "asset", assets, 5);
        add(looks, "hunter", hunters, 6);
        add(looks, "reportOf", reports, 13);
        add(looks, "original", reports);
        add(looks, "paidIn", reports);
        add(looks, "best", hunters + 1);
        looks.add(new Call("lack", new int[0]));
        return looks;
    }

    private static void add(List<Call> looks, String name, int ends) {
        for (int i = 0; i < ends; i++) {
            looks.add(new Call(name, new int[] {i}));
        }
    }

    private static void add(List<Call> looks, String name, int rows, int ends) {
        for (int i = 0; i < rows; i++) {
            for (int what = 0; what < ends; what++) {
                looks.add(new Call(name, new int[] {i, what}));
            }
        }
    }

    /** One call. */
    record Call(String name, int[] arguments) {
        int on(BountyDesk desk) {
            return answer(desk, name, arguments);
        }

        boolean isDeed() {
            return DEEDS.contains(name);
        }

        String text() {
            StringBuilder text = new StringBuilder(name).append('(');
            for (int i = 0; i < arguments.length; i++) {
                text.append(i == 0 ? "" : ", ").append(arguments[i]);
            }
            return text.append(')').toString();
        }
    }
}
