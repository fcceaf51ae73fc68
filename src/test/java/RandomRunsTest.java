import java.util.List;

/** Runs of 512 calls on the desk and on the model, which have to answer the same. */
public final class RandomRunsTest {
    private static final int RUNS = 400;
    private static final int CALLS = 512;
    private static final List<String> LOOKS = List.of("count", "asset", "hunter", "reportOf",
            "original", "lack", "best", "paidIn");
    private static final int[] ODD = {Integer.MIN_VALUE, Integer.MAX_VALUE, -1, 1000000000, -10009, 40, 64};

    private long seed;
    private final BountyDesk desk = new BountyDesk();
    private final Model model = new Model();
    private final int flaws;
    private final int mostMoney;
    private final int mostDays;

    private RandomRunsTest(int run) {
        seed = run * 7919L + 17;
        flaws = 1 + below(12);
        mostMoney = List.of(30, 300, 3000, 10000).get(below(4));
        mostDays = List.of(5, 60, 400).get(below(3));
    }

    public static void main(String[] args) {
        int[] answered = new int[4];
        for (int run = 0; run < RUNS; run++) {
            new RandomRunsTest(run).go(run, answered);
        }
        System.out.println(answered[0] + " values, " + answered[1] + " invalid, " + answered[2] + " illegal, "
                + answered[3] + " without a room or a value");
        Script.end();
    }

    private void go(int run, int[] answered) {
        for (int i = 0; i < CALLS; i++) {
            Calls.Call call = drawn(i);
            int got = call.on(desk);
            int want = model.answer(call);
            Script.same("run " + run + ", call " + i + ", " + call.text(), "" + got, "" + want);
            answered[want == BountyDesk.INVALID_ARGUMENT ? 1 : want == BountyDesk.ILLEGAL_STATE ? 2
                    : want == BountyDesk.CAPACITY_EXCEEDED || want == BountyDesk.NONE ? 3 : 0]++;
            if (got != want) {
                return;
            }
        }
    }

    /** A linear congruence, so that every run of the test makes the same calls. */
    private int below(int end) {
        seed = seed * 6364136223846793005L + 1442695040888963407L;
        return (int) ((seed >>> 33) % end);
    }

    private Calls.Call drawn(int i) {
        if (i < 12) {
            return i % 2 == 0 ? call("addHunter") : call("addAsset", 1 + below(9), below(mostMoney));
        }
        int kind = below(100);
        if (kind < 45) {
            return drawnLook();
        }
        if (kind < 50) {
            return call("undo");
        }
        if (kind < 60) {
            return call("report", hunter(), asset(), odd(below(flaws)));
        }
        return kind < 85 ? drawnOnReport() : drawnOther();
    }

    private Calls.Call drawnLook() {
        String name = LOOKS.get(below(LOOKS.size()));
        switch (name) {
            case "count": return call(name, odd(below(18)));
            case "asset": return call(name, asset(), odd(below(6)));
            case "hunter": return call(name, hunter(), odd(below(7)));
            case "reportOf": return call(name, anyReport(), odd(below(14)));
            case "lack": return call(name);
            case "best": return call(name, odd(below(9)));
            case "paidIn": return call(name, report(2));
            default: return call(name, anyReport());
        }
    }

    private Calls.Call drawnOnReport() {
        switch (below(8)) {
            case 0: return call("fold", report(0));
            case 1: return call("grade", report(0), odd(1 + below(4)));
            case 2: return below(3) == 0 ? call("refuse", anyReport()) : call("pay", report(1));
            case 3: return call("appeal", report(1 + below(2)), odd(2 + below(3)));
            case 4: return call("decide", withOpenAppeal(), odd(below(6)));
            case 5: return call("pay", report(1 + below(2)));
            case 6: return call("retest", hunter(), report(3), odd(0));
            default: return call("retest", hunter(), report(3), odd(below(2)));
        }
    }

    private Calls.Call drawnOther() {
        switch (below(7)) {
            case 0: return call("fill", odd(1 + below(mostMoney)));
            case 1: return call("setRate", odd(45 + below(160)));
            case 2: return call("setBonus", odd(below(520)));
            case 3: return call("addAsset", odd(below(11)), odd(below(mostMoney)));
            case 4: return call("addHunter");
            case 5: return call("fill", odd(90000 + below(10001)));
            default: return call("pass", odd(1 + below(mostDays)));
        }
    }

    private static Calls.Call call(String name, int... arguments) {
        return new Calls.Call(name, arguments);
    }

    private int odd(int usual) {
        return below(40) == 0 ? ODD[below(ODD.length)] : usual;
    }

    private int asset() {
        return odd(below(7));
    }

    private int hunter() {
        return odd(below(9));
    }

    private int anyReport() {
        return odd(below(model.answer(call("count", 5)) + 1));
    }

    /** Mostly a report in a state, so that deeds succeed; asks the model, which a desk's calls don't count for. */
    private int report(int state) {
        int start = anyReport();
        for (int i = 0; i < 40 && below(12) != 0; i++) {
            int number = Math.floorMod(start + i, 40);
            if (model.answer(call("reportOf", number, 3)) == state) {
                return number;
            }
        }
        return start;
    }

    private int withOpenAppeal() {
        for (int number = 0; number < 40; number++) {
            if (model.answer(call("reportOf", number, 8)) == 1) {
                return number;
            }
        }
        return anyReport();
    }
}
