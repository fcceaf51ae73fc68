import java.util.ArrayList;
import java.util.Comparator;
import java.util.List;

/**
 * The desk once more, written from the document for RandomRunsTest without regard
 * to space or speed: undo replays all deeds but the latest on a new model.
 */
final class Model {
    private static final int INVALID = BountyDesk.INVALID_ARGUMENT;
    private static final int ILLEGAL = BountyDesk.ILLEGAL_STATE;
    private static final int FULL = BountyDesk.CAPACITY_EXCEEDED;
    private static final int NONE = BountyDesk.NONE;

    private static final class Asset {
        int weight;
        int allowance;
        int pool;
    }

    private static final class Hunter {
        int number;
        int money;
        int won;
        int lost;
        int bonuses;
    }

    private static final class Report {
        int number;
        Hunter hunter;
        Asset asset;
        int flaw;
        String state = "new";
        int severity;
        Report into;
        String appeal = "none";
        int claimed;
        int lastPaid;
        List<Hunter> gone = new ArrayList<>();
        List<Hunter> there = new ArrayList<>();
        boolean closed;
    }

    private static final List<String> STATES = List.of("new", "graded", "waiting", "paid", "refused", "folded");

    private List<Calls.Call> deeds = new ArrayList<>();
    private int remembered = 0;

    private List<Asset> assets;
    private List<Hunter> hunters;
    private List<Report> reports;
    private int day;
    private int reserve;
    private int rate;
    private int bonus;
    private int allPaid;
    private int allBonuses;

    Model() {
        clear();
    }

    private void clear() {
        assets = new ArrayList<>();
        hunters = new ArrayList<>();
        reports = new ArrayList<>();
        day = 0;
        reserve = 0;
        rate = 100;
        bonus = 20;
        allPaid = 0;
        allBonuses = 0;
    }

    int answer(Calls.Call call) {
        if (call.name().equals("undo")) {
            return undo();
        }
        if (!call.isDeed()) {
            return look(call.name(), call.arguments());
        }
        int answer = deed(call.name(), call.arguments());
        if (!Calls.isError(answer)) {
            deeds.add(call);
            remembered = Math.min(8, remembered + 1);
        }
        return answer;
    }

    private int undo() {
        if (remembered == 0) {
            return ILLEGAL;
        }
        deeds.remove(deeds.size() - 1);
        clear();
        for (Calls.Call call : deeds) {
            deed(call.name(), call.arguments());
        }
        return --remembered;
    }

    private static <T> T at(List<T> list, int i) {
        return i >= 0 && i < list.size() ? list.get(i) : null;
    }

    private static boolean in(int value, int least, int most) {
        return least <= value && value <= most;
    }

    private int deed(String name, int[] a) {
        switch (name) {
            case "addAsset": return addAsset(a[0], a[1]);
            case "addHunter": return addHunter();
            case "fill":
                if (!in(a[0], 1, 100000)) return INVALID;
                if (reserve + a[0] > 1000000) return ILLEGAL;
                return reserve += a[0];
            case "setRate": {
                if (!in(a[0], 50, 200)) return INVALID;
                int old = rate;
                rate = a[0];
                return old;
            }
            case "setBonus": {
                if (!in(a[0], 0, 500)) return INVALID;
                int old = bonus;
                bonus = a[0];
                return old;
            }
            case "report": return report(a[0], a[1], a[2]);
            case "retest": return retest(at(hunters, a[0]), at(reports, a[1]), a[2]);
            case "pass": return pass(a[0]);
            default: return deedOnReport(name, at(reports, a[0]), a);
        }
    }

    private int addAsset(int weight, int allowance) {
        if (!in(weight, 1, 9) || !in(allowance, 0, 10000)) return INVALID;
        if (assets.size() == 6) return FULL;
        Asset asset = new Asset();
        asset.weight = weight;
        asset.allowance = allowance;
        asset.pool = allowance;
        assets.add(asset);
        return assets.size() - 1;
    }

    private int addHunter() {
        if (hunters.size() == 8) return FULL;
        Hunter hunter = new Hunter();
        hunter.number = hunters.size();
        hunters.add(hunter);
        return hunter.number;
    }

    private int report(int hunter, int asset, int flaw) {
        if (at(hunters, hunter) == null || at(assets, asset) == null || !in(flaw, 0, 99)) return INVALID;
        if (reports.size() == 40) return FULL;
        Report report = new Report();
        report.number = reports.size();
        report.hunter = hunters.get(hunter);
        report.asset = assets.get(asset);
        report.flaw = flaw;
        reports.add(report);
        return report.number;
    }

    private int deedOnReport(String name, Report r, int[] a) {
        if (r == null) return INVALID;
        boolean payable = r.state.equals("graded") || r.state.equals("waiting");
        boolean open = r.appeal.equals("open");
        switch (name) {
            case "fold": {
                Report into = original(r);
                if (into == null) return ILLEGAL;
                r.state = "folded";
                r.into = into;
                return into.number;
            }
            case "grade":
                if (!in(a[1], 1, 4)) return INVALID;
                if (!r.state.equals("new")) return ILLEGAL;
                r.state = "graded";
                r.severity = a[1];
                return price(r, a[1]);
            case "refuse":
                if (!r.state.equals("new") && !payable || open) return ILLEGAL;
                r.state = "refused";
                return release(r);
            case "appeal":
                if (!in(a[1], 2, 4)) return INVALID;
                if (!payable || !r.appeal.equals("none") || a[1] <= r.severity) return ILLEGAL;
                r.appeal = "open";
                r.claimed = a[1];
                return price(r, a[1]);
            case "decide":
                if (!open) return ILLEGAL;
                if (!in(a[1], r.severity, r.claimed)) return INVALID;
                return decide(r, a[1]);
            case "pay":
                if (!payable || open) return ILLEGAL;
                return pay(r);
            default: throw new IllegalArgumentException(name);
        }
    }

    private int decide(Report r, int severity) {
        boolean raised = severity > r.severity;
        r.severity = severity;
        r.appeal = "decided";
        if (severity == r.claimed) {
            r.hunter.won++;
            return 2;
        }
        if (raised) return 1;
        r.hunter.lost++;
        return 0;
    }

    private Report original(Report r) {
        if (!r.state.equals("new")) return null;
        for (Report e : reports.subList(0, r.number)) {
            if (e.asset == r.asset && e.flaw == r.flaw && !e.state.equals("refused") && !e.state.equals("folded")) {
                return e;
            }
        }
        return null;
    }

    /** Those folded into it are new again, and those folded into these, and so on. */
    private int release(Report r) {
        int released = 0;
        for (Report f : folded(r)) {
            released += 1 + makeNew(f);
        }
        return released;
    }

    private int makeNew(Report r) {
        r.state = "new";
        r.severity = 0;
        r.into = null;
        r.appeal = "none";
        r.gone.clear();
        r.there.clear();
        return release(r);
    }

    private List<Report> folded(Report r) {
        List<Report> folded = new ArrayList<>();
        for (Report f : reports) {
            if (f.into == r) folded.add(f);
        }
        return folded;
    }

    private int price(Report r, int severity) {
        return severity * severity * r.asset.weight * 10 * rate / 100;
    }

    private int pay(Report r) {
        int price = price(r, r.severity);
        if (r.asset.pool + reserve < price) {
            r.state = "waiting";
            return 0;
        }
        r.asset.pool -= price;
        if (r.asset.pool < 0) {
            reserve += r.asset.pool;
            r.asset.pool = 0;
        }
        r.state = "paid";
        r.lastPaid = price;
        allPaid += price;
        List<Report> folded = folded(r);
        int parts = Math.min(3, folded.size());
        for (Report f : folded.subList(0, parts)) {
            f.hunter.money += price / 10;
        }
        r.hunter.money += price - parts * (price / 10);
        return price;
    }

    private int retest(Hunter h, Report r, int isGone) {
        if (h == null || r == null || !in(isGone, 0, 1)) return INVALID;
        if (!r.state.equals("paid") || r.closed) return ILLEGAL;
        if (r.hunter == h || r.gone.contains(h) || r.there.contains(h)) return ILLEGAL;
        for (Report f : folded(r)) {
            if (f.hunter == h) return ILLEGAL;
        }
        List<Hunter> same = isGone == 1 ? r.gone : r.there;
        same.add(h);
        if (same.size() < 2) return 0;
        if (reserve >= 2 * bonus) {
            for (Hunter teller : same) {
                reserve -= bonus;
                allBonuses += bonus;
                teller.money += bonus;
                teller.bonuses++;
            }
        }
        if (isGone == 1) {
            r.closed = true;
            return 1;
        }
        makeNew(r);
        return 2;
    }

    private int pass(int days) {
        if (!in(days, 1, 400)) return INVALID;
        if (day + days > 9999) return ILLEGAL;
        int paid = 0;
        for (int i = 0; i < days; i++) {
            paid += passOneDay();
        }
        return paid;
    }

    private int passOneDay() {
        day++;
        if (day % 90 != 0) return 0;
        for (Asset a : assets) {
            if (a.pool > a.allowance) {
                reserve += a.pool - a.allowance;
                a.pool = a.allowance;
            }
            a.pool += a.allowance;
        }
        int paid = 0;
        for (Report r : reports) {
            if (r.state.equals("waiting") && !r.appeal.equals("open") && pay(r) > 0) paid++;
        }
        return paid;
    }

    private int look(String name, int[] a) {
        switch (name) {
            case "count": return count(a[0]);
            case "asset": return asset(at(assets, a[0]), a[1]);
            case "hunter": return hunter(at(hunters, a[0]), a[1]);
            case "reportOf": return reportOf(at(reports, a[0]), a[1]);
            case "original": {
                Report r = at(reports, a[0]);
                return r == null ? INVALID : original(r) == null ? NONE : original(r).number;
            }
            case "lack": return lack();
            case "best": return best(a[0]);
            case "paidIn": return paidIn(at(reports, a[0]));
            default: throw new IllegalArgumentException(name);
        }
    }

    private int count(int what) {
        int[] counts = {day, day / 90, reserve, assets.size(), hunters.size(), reports.size(), 0, 0, 0, 0, 0, 0,
                assets.stream().mapToInt(a -> a.pool).sum(), allPaid, allBonuses,
                (int) reports.stream().filter(r -> r.appeal.equals("open")).count(), remembered};
        for (Report r : reports) {
            counts[6 + STATES.indexOf(r.state)]++;
        }
        return in(what, 0, 16) ? counts[what] : INVALID;
    }

    private int asset(Asset a, int what) {
        if (a == null || !in(what, 0, 4)) return INVALID;
        int number = 0;
        int prices = 0;
        for (Report r : reports) {
            if (r.asset == a) {
                number++;
                if (r.state.equals("graded") || r.state.equals("waiting")) prices += price(r, r.severity);
            }
        }
        return new int[] {a.weight, a.allowance, a.pool, number, prices}[what];
    }

    private int hunter(Hunter h, int what) {
        if (h == null || !in(what, 0, 5)) return INVALID;
        int number = 0;
        for (Report r : reports) {
            if (r.hunter == h) number++;
        }
        return new int[] {number, h.money, standing(h), h.won, h.lost, h.bonuses}[what];
    }

    private int standing(Hunter h) {
        int standing = 2 * h.won - h.lost + h.bonuses;
        for (Report r : reports) {
            if (r.hunter == h) standing += new int[] {0, 0, 0, 3, -2, 1}[STATES.indexOf(r.state)];
        }
        return standing;
    }

    private int reportOf(Report r, int what) {
        if (r == null || !in(what, 0, 12)) return INVALID;
        boolean graded = List.of("graded", "waiting", "paid").contains(r.state);
        return new int[] {r.hunter.number, assets.indexOf(r.asset), r.flaw, STATES.indexOf(r.state),
                graded ? r.severity : NONE, r.into == null ? NONE : r.into.number, folded(r).size(),
                graded ? price(r, r.severity) : NONE, List.of("none", "open", "decided").indexOf(r.appeal),
                r.lastPaid, r.gone.size(), r.there.size(), r.closed ? 1 : 0}[what];
    }

    /** Pays all in a copy, by their numbers, from a reserve that may go below 0. */
    private int lack() {
        int[] pools = new int[assets.size()];
        for (int i = 0; i < pools.length; i++) {
            pools[i] = assets.get(i).pool;
        }
        int left = reserve;
        for (Report r : reports) {
            if (r.state.equals("graded") || r.state.equals("waiting")) {
                int i = assets.indexOf(r.asset);
                int fromPool = Math.min(pools[i], price(r, r.severity));
                pools[i] -= fromPool;
                left -= price(r, r.severity) - fromPool;
            }
        }
        return left < 0 ? -left : 0;
    }

    private int best(int index) {
        if (index < 0) return INVALID;
        List<Hunter> order = new ArrayList<>(hunters);
        order.sort(Comparator.comparingInt((Hunter h) -> -standing(h)).thenComparingInt(h -> -h.money)
                .thenComparingInt(h -> h.number));
        return index < order.size() ? order.get(index).number : NONE;
    }

    private int paidIn(Report r) {
        if (r == null) return INVALID;
        if (!r.state.equals("waiting")) return ILLEGAL;
        Model later = new Model();
        for (Calls.Call call : deeds) {
            later.deed(call.name(), call.arguments());
        }
        int lastDay = (day / 90 + 12) * 90;
        while (later.day < lastDay) {
            later.passOneDay();
            if (later.reports.get(r.number).state.equals("paid")) return later.day - day;
        }
        return NONE;
    }
}
