/**
 * A desk for reports of flaws. The public methods test what they are given and
 * remember the deeds; the class Books inside holds the state and changes it.
 */
public final class BountyDesk {
    public static final int INVALID_ARGUMENT = -10001;
    public static final int ILLEGAL_STATE = -10002;
    public static final int CAPACITY_EXCEEDED = -10003;
    public static final int NONE = -10009;

    private static final int MOST_ASSETS = 6;
    private static final int MOST_HUNTERS = 8;
    private static final int MOST_REPORTS = 40;
    private static final int MOST_DEEDS = 8;
    private static final int MOST_RESERVE = 1000000;
    private static final int LAST_DAY = 9999;
    private static final int QUARTER_DAYS = 90;
    private static final int FORECAST_QUARTERS = 12;
    private static final int MOST_PARTS = 3;
    private static final int RETESTS_TO_CLOSE = 2;

    private static final int NEW = 0;
    private static final int GRADED = 1;
    private static final int WAITING = 2;
    private static final int PAID = 3;
    private static final int REFUSED = 4;
    private static final int FOLDED = 5;

    private static final int NO_APPEAL = 0;
    private static final int OPEN_APPEAL = 1;
    private static final int DECIDED_APPEAL = 2;

    private final Books books;
    private final Books forecast;
    private final Books[] before;
    private final int[] standings;
    private int nextSlot;
    private int deeds;

    public BountyDesk() {
        books = new Books();
        forecast = new Books();
        before = new Books[MOST_DEEDS];
        for (int i = 0; i < MOST_DEEDS; i++) {
            before[i] = new Books();
        }
        standings = new int[MOST_HUNTERS];
        nextSlot = 0;
        deeds = 0;
    }

    // ---- assets, hunters, money

    public int addAsset(int weight, int allowance) {
        if (isOutside(weight, 1, 9) || isOutside(allowance, 0, 10000)) {
            return INVALID_ARGUMENT;
        }
        if (books.assetCount >= MOST_ASSETS) {
            return CAPACITY_EXCEEDED;
        }
        remember();
        return books.openAsset(weight, allowance);
    }

    public int addHunter() {
        if (books.hunterCount >= MOST_HUNTERS) {
            return CAPACITY_EXCEEDED;
        }
        remember();
        return books.openHunter();
    }

    public int fill(int amount) {
        if (isOutside(amount, 1, 100000)) {
            return INVALID_ARGUMENT;
        }
        if (books.reserve + amount > MOST_RESERVE) {
            return ILLEGAL_STATE;
        }
        remember();
        books.reserve += amount;
        return books.reserve;
    }

    public int setRate(int rate) {
        if (isOutside(rate, 50, 200)) {
            return INVALID_ARGUMENT;
        }
        remember();
        int previous = books.rate;
        books.rate = rate;
        return previous;
    }

    public int setBonus(int bonus) {
        if (isOutside(bonus, 0, 500)) {
            return INVALID_ARGUMENT;
        }
        remember();
        int previous = books.bonus;
        books.bonus = bonus;
        return previous;
    }

    // ---- reports

    public int report(int hunter, int asset, int flaw) {
        if (!books.hasHunter(hunter) || !books.hasAsset(asset) || isOutside(flaw, 0, 99)) {
            return INVALID_ARGUMENT;
        }
        if (books.reportCount >= MOST_REPORTS) {
            return CAPACITY_EXCEEDED;
        }
        remember();
        return books.openReport(hunter, asset, flaw);
    }

    public int fold(int report) {
        if (!books.hasReport(report)) {
            return INVALID_ARGUMENT;
        }
        int target = books.foldTarget(report);
        if (target == NONE) {
            return ILLEGAL_STATE;
        }
        remember();
        Report folded = books.reports[report];
        folded.state = FOLDED;
        folded.foldedInto = target;
        return target;
    }

    public int grade(int report, int severity) {
        if (!books.hasReport(report) || isOutside(severity, 1, 4)) {
            return INVALID_ARGUMENT;
        }
        Report graded = books.reports[report];
        if (graded.state != NEW) {
            return ILLEGAL_STATE;
        }
        remember();
        graded.state = GRADED;
        graded.severity = severity;
        return books.priceOf(graded);
    }

    public int refuse(int report) {
        if (!books.hasReport(report)) {
            return INVALID_ARGUMENT;
        }
        Report refused = books.reports[report];
        if (refused.state != NEW && !refused.isPayable()) {
            return ILLEGAL_STATE;
        }
        if (refused.appeal == OPEN_APPEAL) {
            return ILLEGAL_STATE;
        }
        remember();
        refused.state = REFUSED;
        return books.releaseFolded(report);
    }

    public int appeal(int report, int severity) {
        if (!books.hasReport(report) || isOutside(severity, 2, 4)) {
            return INVALID_ARGUMENT;
        }
        Report appealed = books.reports[report];
        if (!appealed.isPayable() || appealed.appeal != NO_APPEAL || severity <= appealed.severity) {
            return ILLEGAL_STATE;
        }
        remember();
        appealed.appeal = OPEN_APPEAL;
        appealed.claimed = severity;
        return books.priceWith(appealed, severity);
    }

    public int decide(int report, int severity) {
        if (!books.hasReport(report)) {
            return INVALID_ARGUMENT;
        }
        Report appealed = books.reports[report];
        if (appealed.appeal != OPEN_APPEAL) {
            return ILLEGAL_STATE;
        }
        if (isOutside(severity, appealed.severity, appealed.claimed)) {
            return INVALID_ARGUMENT;
        }
        remember();
        return books.closeAppeal(appealed, severity);
    }

    public int pay(int report) {
        if (!books.hasReport(report)) {
            return INVALID_ARGUMENT;
        }
        Report paid = books.reports[report];
        if (!paid.isPayable() || paid.appeal == OPEN_APPEAL) {
            return ILLEGAL_STATE;
        }
        remember();
        return books.payOrWait(report);
    }

    public int retest(int hunter, int report, int isGone) {
        if (!books.hasHunter(hunter) || !books.hasReport(report) || isOutside(isGone, 0, 1)) {
            return INVALID_ARGUMENT;
        }
        Report tested = books.reports[report];
        if (tested.state != PAID || tested.isClosed) {
            return ILLEGAL_STATE;
        }
        if (tested.isRetestedBy(hunter) || books.isReportedBy(hunter, report)) {
            return ILLEGAL_STATE;
        }
        remember();
        return books.takeRetest(hunter, report, isGone == 1);
    }

    public int pass(int days) {
        if (isOutside(days, 1, 400)) {
            return INVALID_ARGUMENT;
        }
        if (books.day + days > LAST_DAY) {
            return ILLEGAL_STATE;
        }
        remember();
        int quarters = (books.day + days) / QUARTER_DAYS - books.day / QUARTER_DAYS;
        books.day += days;
        int paid = 0;
        for (int i = 0; i < quarters; i++) {
            paid += books.beginQuarter();
        }
        return paid;
    }

    public int undo() {
        if (deeds == 0) {
            return ILLEGAL_STATE;
        }
        nextSlot = nextSlot == 0 ? MOST_DEEDS - 1 : nextSlot - 1;
        books.copyFrom(before[nextSlot]);
        deeds--;
        return deeds;
    }

    // ---- looking

    public int count(int what) {
        switch (what) {
            case 0: return books.day;
            case 1: return books.day / QUARTER_DAYS;
            case 2: return books.reserve;
            case 3: return books.assetCount;
            case 4: return books.hunterCount;
            case 5: return books.reportCount;
            case 6: return books.reportsInState(NEW);
            case 7: return books.reportsInState(GRADED);
            case 8: return books.reportsInState(WAITING);
            case 9: return books.reportsInState(PAID);
            case 10: return books.reportsInState(REFUSED);
            case 11: return books.reportsInState(FOLDED);
            case 12: return books.moneyInPools();
            case 13: return books.paidSoFar;
            case 14: return books.bonusesSoFar;
            case 15: return books.openAppeals();
            case 16: return deeds;
            default: return INVALID_ARGUMENT;
        }
    }

    public int asset(int asset, int what) {
        if (!books.hasAsset(asset)) {
            return INVALID_ARGUMENT;
        }
        Asset shown = books.assets[asset];
        switch (what) {
            case 0: return shown.weight;
            case 1: return shown.allowance;
            case 2: return shown.pool;
            case 3: return books.reportsFor(asset);
            case 4: return books.payablePrices(asset);
            default: return INVALID_ARGUMENT;
        }
    }

    public int hunter(int hunter, int what) {
        if (!books.hasHunter(hunter)) {
            return INVALID_ARGUMENT;
        }
        Hunter shown = books.hunters[hunter];
        switch (what) {
            case 0: return books.reportsBy(hunter);
            case 1: return shown.money;
            case 2: return books.standingOf(hunter);
            case 3: return shown.won;
            case 4: return shown.lost;
            case 5: return shown.bonuses;
            default: return INVALID_ARGUMENT;
        }
    }

    public int reportOf(int report, int what) {
        if (!books.hasReport(report)) {
            return INVALID_ARGUMENT;
        }
        Report shown = books.reports[report];
        switch (what) {
            case 0: return shown.hunter;
            case 1: return shown.asset;
            case 2: return shown.flaw;
            case 3: return shown.state;
            case 4: return shown.hasSeverity() ? shown.severity : NONE;
            case 5: return shown.foldedInto;
            case 6: return books.foldedReports(report);
            case 7: return shown.hasSeverity() ? books.priceOf(shown) : NONE;
            case 8: return shown.appeal;
            case 9: return shown.lastPaid;
            case 10: return Integer.bitCount(shown.toldGone);
            case 11: return Integer.bitCount(shown.toldThere);
            case 12: return shown.isClosed ? 1 : 0;
            default: return INVALID_ARGUMENT;
        }
    }

    // ---- what could be, which changes nothing

    public int original(int report) {
        if (!books.hasReport(report)) {
            return INVALID_ARGUMENT;
        }
        return books.foldTarget(report);
    }

    public int lack() {
        int fromReserve = 0;
        for (int i = 0; i < books.assetCount; i++) {
            fromReserve += Math.max(0, books.payablePrices(i) - books.assets[i].pool);
        }
        return Math.max(0, fromReserve - books.reserve);
    }

    public int best(int index) {
        if (index < 0) {
            return INVALID_ARGUMENT;
        }
        for (int i = 0; i < books.hunterCount; i++) {
            standings[i] = books.standingOf(i);
        }
        for (int i = 0; i < books.hunterCount; i++) {
            if (huntersAheadOf(i) == index) {
                return i;
            }
        }
        return NONE;
    }

    public int paidIn(int report) {
        if (!books.hasReport(report)) {
            return INVALID_ARGUMENT;
        }
        if (books.reports[report].state != WAITING) {
            return ILLEGAL_STATE;
        }
        forecast.copyFrom(books);
        int quarter = books.day / QUARTER_DAYS;
        for (int i = 1; i <= FORECAST_QUARTERS; i++) {
            forecast.beginQuarter();
            if (forecast.reports[report].state == PAID) {
                return (quarter + i) * QUARTER_DAYS - books.day;
            }
        }
        return NONE;
    }

    private static boolean isOutside(int value, int least, int most) {
        return value < least || value > most;
    }

    /** Comes ahead of every change, and behind all tests: a call with an error is no deed. */
    private void remember() {
        before[nextSlot].copyFrom(books);
        nextSlot = nextSlot == MOST_DEEDS - 1 ? 0 : nextSlot + 1;
        deeds = Math.min(deeds + 1, MOST_DEEDS);
    }

    private int huntersAheadOf(int hunter) {
        int ahead = 0;
        for (int i = 0; i < books.hunterCount; i++) {
            if (isAhead(i, hunter)) {
                ahead++;
            }
        }
        return ahead;
    }

    private boolean isAhead(int one, int other) {
        if (standings[one] != standings[other]) {
            return standings[one] > standings[other];
        }
        int money = books.hunters[one].money;
        int otherMoney = books.hunters[other].money;
        return money != otherMoney ? money > otherMoney : one < other;
    }

    /** An asset with its pool of money. */
    private static final class Asset {
        int weight;
        int allowance;
        int pool;

        Asset() {
        }

        void copyFrom(Asset other) {
            weight = other.weight;
            allowance = other.allowance;
            pool = other.pool;
        }
    }

    /** What a hunter has got and won for good, whatever becomes of the reports. */
    private static final class Hunter {
        int money;
        int won;
        int lost;
        int bonuses;

        Hunter() {
        }

        void clear() {
            money = 0;
            won = 0;
            lost = 0;
            bonuses = 0;
        }

        void copyFrom(Hunter other) {
            money = other.money;
            won = other.won;
            lost = other.lost;
            bonuses = other.bonuses;
        }
    }

    /** A report; toldGone and toldThere hold a bit for each hunter who retested it so. */
    private static final class Report {
        int hunter;
        int asset;
        int flaw;
        int state;
        int severity;
        int foldedInto;
        int appeal;
        int claimed;
        int lastPaid;
        int toldGone;
        int toldThere;
        boolean isClosed;

        Report() {
            foldedInto = NONE;
        }

        void open(int itsHunter, int itsAsset, int itsFlaw) {
            hunter = itsHunter;
            asset = itsAsset;
            flaw = itsFlaw;
            lastPaid = 0;
            makeNew();
        }

        /** Leaves lastPaid as it is: it stays told when a report is new again. */
        void makeNew() {
            state = NEW;
            severity = 0;
            foldedInto = NONE;
            appeal = NO_APPEAL;
            claimed = 0;
            toldGone = 0;
            toldThere = 0;
            isClosed = false;
        }

        boolean isPayable() {
            return state == GRADED || state == WAITING;
        }

        boolean hasSeverity() {
            return isPayable() || state == PAID;
        }

        boolean isRetestedBy(int tester) {
            return ((toldGone | toldThere) & (1 << tester)) != 0;
        }

        boolean tellsSameAs(Report other) {
            return asset == other.asset && flaw == other.flaw;
        }

        void copyFrom(Report other) {
            hunter = other.hunter;
            asset = other.asset;
            flaw = other.flaw;
            state = other.state;
            severity = other.severity;
            foldedInto = other.foldedInto;
            appeal = other.appeal;
            claimed = other.claimed;
            lastPaid = other.lastPaid;
            toldGone = other.toldGone;
            toldThere = other.toldThere;
            isClosed = other.isClosed;
        }
    }

    /**
     * All that undo brings back. Its rows are made once and used again; those at
     * and above a count hold leftovers, which the opening of a row clears.
     */
    private static final class Books {
        final Asset[] assets;
        final Hunter[] hunters;
        final Report[] reports;
        int assetCount;
        int hunterCount;
        int reportCount;
        int day;
        int reserve;
        int rate;
        int bonus;
        int paidSoFar;
        int bonusesSoFar;

        Books() {
            assets = new Asset[MOST_ASSETS];
            for (int i = 0; i < MOST_ASSETS; i++) {
                assets[i] = new Asset();
            }
            hunters = new Hunter[MOST_HUNTERS];
            for (int i = 0; i < MOST_HUNTERS; i++) {
                hunters[i] = new Hunter();
            }
            reports = new Report[MOST_REPORTS];
            for (int i = 0; i < MOST_REPORTS; i++) {
                reports[i] = new Report();
            }
            rate = 100;
            bonus = 20;
        }

        void copyFrom(Books other) {
            assetCount = other.assetCount;
            for (int i = 0; i < assetCount; i++) {
                assets[i].copyFrom(other.assets[i]);
            }
            hunterCount = other.hunterCount;
            for (int i = 0; i < hunterCount; i++) {
                hunters[i].copyFrom(other.hunters[i]);
            }
            reportCount = other.reportCount;
            for (int i = 0; i < reportCount; i++) {
                reports[i].copyFrom(other.reports[i]);
            }
            day = other.day;
            reserve = other.reserve;
            rate = other.rate;
            bonus = other.bonus;
            paidSoFar = other.paidSoFar;
            bonusesSoFar = other.bonusesSoFar;
        }

        boolean hasAsset(int asset) {
            return asset >= 0 && asset < assetCount;
        }

        boolean hasHunter(int hunter) {
            return hunter >= 0 && hunter < hunterCount;
        }

        boolean hasReport(int report) {
            return report >= 0 && report < reportCount;
        }

        int openAsset(int weight, int allowance) {
            Asset opened = assets[assetCount];
            opened.weight = weight;
            opened.allowance = allowance;
            opened.pool = allowance;
            assetCount++;
            return assetCount - 1;
        }

        int openHunter() {
            hunters[hunterCount].clear();
            hunterCount++;
            return hunterCount - 1;
        }

        int openReport(int hunter, int asset, int flaw) {
            reports[reportCount].open(hunter, asset, flaw);
            reportCount++;
            return reportCount - 1;
        }

        /** The report into which a report can be folded, or NONE. */
        int foldTarget(int report) {
            Report folded = reports[report];
            if (folded.state != NEW) {
                return NONE;
            }
            for (int i = 0; i < report; i++) {
                Report earlier = reports[i];
                boolean counts = earlier.state != REFUSED && earlier.state != FOLDED;
                if (counts && earlier.tellsSameAs(folded)) {
                    return i;
                }
            }
            return NONE;
        }

        /**
         * Makes those new that are folded into a report, and tells how many. There
         * are no chains to follow: a report is folded into the first one of its kind
         * that is not refused, and that one can never be folded itself.
         */
        int releaseFolded(int report) {
            int released = 0;
            for (int i = 0; i < reportCount; i++) {
                if (reports[i].foldedInto == report) {
                    reports[i].makeNew();
                    released++;
                }
            }
            return released;
        }

        int priceWith(Report report, int severity) {
            return severity * severity * assets[report.asset].weight * 10 * rate / 100;
        }

        int priceOf(Report report) {
            return priceWith(report, report.severity);
        }

        /** Returns 2 if the hunter wins, 1 if nobody does, 0 if the hunter loses. */
        int closeAppeal(Report appealed, int severity) {
            int previous = appealed.severity;
            appealed.appeal = DECIDED_APPEAL;
            appealed.severity = severity;
            if (severity == appealed.claimed) {
                hunters[appealed.hunter].won++;
                return 2;
            }
            if (severity > previous) {
                return 1;
            }
            hunters[appealed.hunter].lost++;
            return 0;
        }

        /** Returns what was paid, or 0 if the report waits: no price is 0. */
        int payOrWait(int report) {
            Report paid = reports[report];
            Asset asset = assets[paid.asset];
            int price = priceOf(paid);
            if (price > asset.pool + reserve) {
                paid.state = WAITING;
                return 0;
            }
            int fromPool = Math.min(price, asset.pool);
            asset.pool -= fromPool;
            reserve -= price - fromPool;
            paid.state = PAID;
            paid.lastPaid = price;
            paidSoFar += price;
            shareOut(report, price);
            return price;
        }

        void shareOut(int report, int price) {
            int part = price / 10;
            int rest = price;
            int parts = 0;
            for (int i = 0; i < reportCount && parts < MOST_PARTS; i++) {
                if (reports[i].foldedInto == report) {
                    hunters[reports[i].hunter].money += part;
                    rest -= part;
                    parts++;
                }
            }
            hunters[reports[report].hunter].money += rest;
        }

        /** Returns the number of waiting reports that are paid. */
        int beginQuarter() {
            for (int i = 0; i < assetCount; i++) {
                Asset asset = assets[i];
                int kept = Math.min(asset.pool, asset.allowance);
                reserve += asset.pool - kept;
                asset.pool = kept + asset.allowance;
            }
            int paid = 0;
            for (int i = 0; i < reportCount; i++) {
                Report waiting = reports[i];
                boolean isDue = waiting.state == WAITING && waiting.appeal != OPEN_APPEAL;
                if (isDue && payOrWait(i) > 0) {
                    paid++;
                }
            }
            return paid;
        }

        boolean isReportedBy(int hunter, int report) {
            if (reports[report].hunter == hunter) {
                return true;
            }
            for (int i = 0; i < reportCount; i++) {
                if (reports[i].foldedInto == report && reports[i].hunter == hunter) {
                    return true;
                }
            }
            return false;
        }

        /** Returns 0 if the report is not closed by this, 1 if as gone, 2 if as still there. */
        int takeRetest(int hunter, int report, boolean isGone) {
            Report tested = reports[report];
            int tellers = (isGone ? tested.toldGone : tested.toldThere) | (1 << hunter);
            if (isGone) {
                tested.toldGone = tellers;
            } else {
                tested.toldThere = tellers;
            }
            if (Integer.bitCount(tellers) < RETESTS_TO_CLOSE) {
                return 0;
            }
            giveBonuses(tellers);
            if (isGone) {
                tested.isClosed = true;
                return 1;
            }
            tested.makeNew();
            releaseFolded(report);
            return 2;
        }

        /** Gives all of the tellers their bonus, or none of them anything. */
        void giveBonuses(int tellers) {
            int all = Integer.bitCount(tellers) * bonus;
            if (all > reserve) {
                return;
            }
            reserve -= all;
            bonusesSoFar += all;
            for (int i = 0; i < hunterCount; i++) {
                if ((tellers & (1 << i)) != 0) {
                    hunters[i].money += bonus;
                    hunters[i].bonuses++;
                }
            }
        }

        int standingOf(int hunter) {
            Hunter one = hunters[hunter];
            int standing = 2 * one.won - one.lost + one.bonuses;
            for (int i = 0; i < reportCount; i++) {
                if (reports[i].hunter == hunter) {
                    standing += standingFor(reports[i].state);
                }
            }
            return standing;
        }

        static int standingFor(int state) {
            switch (state) {
                case PAID: return 3;
                case FOLDED: return 1;
                case REFUSED: return -2;
                default: return 0;
            }
        }

        int reportsInState(int state) {
            int found = 0;
            for (int i = 0; i < reportCount; i++) {
                if (reports[i].state == state) {
                    found++;
                }
            }
            return found;
        }

        int reportsFor(int asset) {
            int found = 0;
            for (int i = 0; i < reportCount; i++) {
                if (reports[i].asset == asset) {
                    found++;
                }
            }
            return found;
        }

        int reportsBy(int hunter) {
            int found = 0;
            for (int i = 0; i < reportCount; i++) {
                if (reports[i].hunter == hunter) {
                    found++;
                }
            }
            return found;
        }

        int foldedReports(int report) {
            int found = 0;
            for (int i = 0; i < reportCount; i++) {
                if (reports[i].foldedInto == report) {
                    found++;
                }
            }
            return found;
        }

        int openAppeals() {
            int found = 0;
            for (int i = 0; i < reportCount; i++) {
                if (reports[i].appeal == OPEN_APPEAL) {
                    found++;
                }
            }
            return found;
        }

        int moneyInPools() {
            int money = 0;
            for (int i = 0; i < assetCount; i++) {
                money += assets[i].pool;
            }
            return money;
        }

        /** The prices of the asset's reports that are graded or waiting, as the rate is now. */
        int payablePrices(int asset) {
            int prices = 0;
            for (int i = 0; i < reportCount; i++) {
                if (reports[i].asset == asset && reports[i].isPayable()) {
                    prices += priceOf(reports[i]);
                }
            }
            return prices;
        }
    }
}
