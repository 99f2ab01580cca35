import java.util.Arrays;

/**
 * A rationing office: coupons that are issued to houses each period, goods that cost coupons, and shops that sell
 * the goods, hand in the coupons for new deliveries and are audited.
 */
public final class RationOffice {
    public static final int GIVE = 0, TAKE = 1, TOLERANCE = 2;
    public static final int NOT_FOUND = -1;
    public static final int BAD_VALUE = -2;
    public static final int FULL = -3;
    public static final int TOO_LARGE = -4;
    public static final int LACKING = -5;
    public static final int IMPOSSIBLE = -6;
    public static final int SYNTAX_ERROR = -11, RANGE_ERROR = -12, NAME_ERROR = -13, DUPLICATE_ERROR = -14, COUNT_ERROR = -15;

    private static final int MAX_GROUPS = 4;
    private static final int MAX_GOODS = 6;
    private static final int MAX_HOUSES = 6;
    private static final int MAX_SHOPS = 4;
    private static final int SETTINGS = 3;
    private static final int MAX_RATION = 99;
    private static final int MAX_LIFE = 4;
    private static final int MAX_SIZE = 9;
    private static final int MAX_BYTES = 800;
    private static final int FED_BYTES = 20;
    private static final int MAX_CHANGES = 10;
    private static final int MAX_UNITS = 9999;
    private static final int MAX_STOCK = 99999;
    private static final int MAX_TRADE = 999;
    private static final int MAX_WANTED = 9999;
    private static final int MAX_EACH = 999;
    private static final int MAX_PERIODS = 50;
    private static final int MAX_BASKET_COUPONS = 400;
    private static final int SUSPENDED = 1, OUT_OF_STOCK = 2, CANNOT_PAY = 3;
    /** The places of a purse: the carried coupons, then the fresh ones by the periods that they have left. */
    private static final int PLACES = 1 + MAX_LIFE;
    private static final int[] FIRST_SETTINGS = {20, 20, 10};
    private static final int[] GREATEST_SETTINGS = {999, 999, 9999};

    private final int[] buffer = new int[MAX_BYTES];
    private final Loader loader = new Loader();
    private final History history = new History();
    private final Basket basket = new Basket();
    /** A copy of one purse, for looking ahead. */
    private final int[] ahead = new int[PLACES];
    private Plan plan = new Plan();
    private State state = new State();
    private int fed = 0;
    private int errorAt = NOT_FOUND;

    public RationOffice() {
    }

    public int feed(int a, int b, int c, int d, int e) {
        if (fed + FED_BYTES > MAX_BYTES) {
            return FULL;
        }
        append(a);
        append(b);
        append(c);
        append(d);
        append(e);
        return fed;
    }

    private void append(int four) {
        for (int shift = 24; shift >= 0 && fed < MAX_BYTES; shift -= 8) {
            buffer[fed] = (four >>> shift) & 255;
            fed++;
        }
    }

    public int load(int length) {
        if (length < 0 || length > fed) {
            return BAD_VALUE;
        }
        fed = 0;
        int statements = loader.read(buffer, length);
        errorAt = loader.errorAt;
        if (loader.error != 0) {
            return loader.error;
        }
        exchangeWithLoader();
        history.forget();
        issueToAll();
        return statements;
    }

    /** The loader gets the old rows for its next text, so that no load makes new ones. */
    private void exchangeWithLoader() {
        Plan oldPlan = plan;
        State oldState = state;
        plan = loader.plan;
        state = loader.state;
        loader.plan = oldPlan;
        loader.state = oldState;
    }

    public int errorPosition() {
        return errorAt;
    }

    public int groupCount() {
        return plan.groups;
    }

    public int goodCount() {
        return plan.goods;
    }

    public int houseCount() {
        return plan.houses;
    }

    public int shopCount() {
        return plan.shops;
    }

    public int undoCount() {
        return history.kept;
    }

    public int period() {
        return state.period;
    }

    public int groupNamed(int letters) {
        return Plan.find(plan.groupNames, plan.groups, letters);
    }

    public int goodNamed(int letters) {
        return Plan.find(plan.goodNames, plan.goods, letters);
    }

    public int houseNamed(int letters) {
        return Plan.find(plan.houseNames, plan.houses, letters);
    }

    public int shopNamed(int letters) {
        return Plan.find(plan.shopNames, plan.shops, letters);
    }

    public int groupProperty(int group, int what) throws IndexOutOfBoundsException {
        need(isGroup(group));
        switch (what) {
            case 0:
                return state.ration[group];
            case 1:
                return plan.life[group];
            case 2:
                return plan.carry[group];
            case 3:
                return plan.substitute[group];
            case 4:
                return plan.factor[group];
            default:
                return BAD_VALUE;
        }
    }

    public int goodProperty(int good, int what) throws IndexOutOfBoundsException {
        need(isGood(good));
        switch (what) {
            case 0:
                return plan.groupOf[good];
            case 1:
                return plan.rate[good];
            case 2:
                return plan.value[good];
            default:
                return BAD_VALUE;
        }
    }

    public int sizeOf(int house) throws IndexOutOfBoundsException {
        need(isHouse(house));
        return state.size[house];
    }

    public int getSetting(int setting) {
        return isSetting(setting) ? state.setting[setting] : BAD_VALUE;
    }

    public int coupons(int house, int group) throws IndexOutOfBoundsException {
        need(isHouse(house) && isGroup(group));
        return holding(house, group);
    }

    public int couponsWith(int house, int group, int left) throws IndexOutOfBoundsException {
        need(isHouse(house) && isGroup(group));
        if (left < 0 || left > MAX_LIFE) {
            return BAD_VALUE;
        }
        return state.purses[State.purse(house, group) + left];
    }

    public int lapsing(int house, int group) throws IndexOutOfBoundsException {
        need(isHouse(house) && isGroup(group));
        startAhead(house, group);
        return stepAhead(house, group);
    }

    public int couponsAfter(int house, int group, int periods) throws IndexOutOfBoundsException {
        need(isHouse(house) && isGroup(group));
        if (periods < 0 || periods > MAX_PERIODS) {
            return BAD_VALUE;
        }
        startAhead(house, group);
        for (int step = 0; step < periods; step++) {
            stepAhead(house, group);
        }
        return Purse.total(ahead, 0);
    }

    public int neediest(int group) throws IndexOutOfBoundsException {
        need(isGroup(group));
        int neediest = NOT_FOUND;
        for (int house = 0; house < plan.houses; house++) {
            if (neediest < 0 || isNeedier(house, neediest, group)) {
                neediest = house;
            }
        }
        return neediest;
    }

    /** Multiplies crosswise, since rounded quotients would hide differences. */
    private boolean isNeedier(int house, int other, int group) {
        return holding(house, group) * state.size[other] < holding(other, group) * state.size[house];
    }

    public int givenBy(int house) throws IndexOutOfBoundsException {
        need(isHouse(house));
        return state.given[house];
    }

    public int takenBy(int house) throws IndexOutOfBoundsException {
        need(isHouse(house));
        return state.taken[house];
    }

    public int tradeRoom(int from, int to, int group) throws IndexOutOfBoundsException {
        need(isHouse(from) && isHouse(to) && isGroup(group));
        if (from == to) {
            return 0;
        }
        return Math.min(mostToGive(from, group), takeRoom(to));
    }

    public int helpers(int house, int group, int wanted) throws IndexOutOfBoundsException {
        need(isHouse(house) && isGroup(group));
        if (wanted < 0 || wanted > MAX_WANTED) {
            return BAD_VALUE;
        }
        int lacking = wanted - holding(house, group);
        if (lacking <= 0) {
            return 0;
        }
        return lacking <= takeRoom(house) ? fewestGivers(house, group, lacking) : NOT_FOUND;
    }

    private int fewestGivers(int house, int group, int lacking) {
        int asked = 1 << house;
        int missing = lacking;
        for (int givers = 1; givers < plan.houses; givers++) {
            int giver = bestGiver(group, asked);
            if (giver < 0) {
                return NOT_FOUND;
            }
            asked |= 1 << giver;
            missing -= mostToGive(giver, group);
            if (missing <= 0) {
                return givers;
            }
        }
        return NOT_FOUND;
    }

    private int bestGiver(int group, int asked) {
        int best = NOT_FOUND;
        for (int house = 0; house < plan.houses; house++) {
            boolean free = (asked & (1 << house)) == 0;
            if (free && (best < 0 || mostToGive(house, group) > mostToGive(best, group))) {
                best = house;
            }
        }
        return best;
    }

    public int stockOf(int shop, int good) throws IndexOutOfBoundsException {
        need(isShop(shop) && isGood(good));
        return state.stock[State.shelf(shop, good)];
    }

    public int accountOf(int shop, int group) throws IndexOutOfBoundsException {
        need(isShop(shop) && isGroup(group));
        return state.account[State.entry(shop, group)];
    }

    public int penaltyOf(int shop) throws IndexOutOfBoundsException {
        need(isShop(shop));
        return state.penalty[shop];
    }

    public boolean isSuspended(int shop) throws IndexOutOfBoundsException {
        need(isShop(shop));
        return isClosed(shop);
    }

    public int soldBy(int shop, int good) throws IndexOutOfBoundsException {
        need(isShop(shop) && isGood(good));
        return state.sold[State.shelf(shop, good)];
    }

    public int deliveredTo(int shop, int good) throws IndexOutOfBoundsException {
        need(isShop(shop) && isGood(good));
        return state.delivered[State.shelf(shop, good)];
    }

    public int turnover(int shop) throws IndexOutOfBoundsException {
        need(isShop(shop));
        int sum = 0;
        for (int good = 0; good < plan.goods; good++) {
            sum += state.sold[State.shelf(shop, good)] * plan.rate[good];
        }
        return sum;
    }

    public int issued(int group) throws IndexOutOfBoundsException {
        need(isGroup(group));
        return state.issued[group];
    }

    public int spent(int group) throws IndexOutOfBoundsException {
        need(isGroup(group));
        return state.spent[group];
    }

    public int lapsed(int group) throws IndexOutOfBoundsException {
        need(isGroup(group));
        return state.lapsed[group];
    }

    public int held(int group) throws IndexOutOfBoundsException {
        need(isGroup(group));
        return heldByAll(group);
    }

    public int reasonFor(int house, int shop, int good, int units) throws IndexOutOfBoundsException {
        need(isHouse(house) && isShop(shop) && isGood(good));
        return areUnits(units) ? reasonAgainst(house, shop, good, units) : BAD_VALUE;
    }

    private int reasonAgainst(int house, int shop, int good, int units) {
        if (isClosed(shop)) {
            return SUSPENDED;
        }
        if (state.stock[State.shelf(shop, good)] < units) {
            return OUT_OF_STOCK;
        }
        return canPay(house, good, units) ? 0 : CANNOT_PAY;
    }

    public int mostUnits(int house, int shop, int good) throws IndexOutOfBoundsException {
        need(isHouse(house) && isShop(shop) && isGood(good));
        return mostToBuy(house, shop, good);
    }

    private int mostToBuy(int house, int shop, int good) {
        if (isClosed(shop)) {
            return 0;
        }
        int group = plan.groupOf[good];
        int substitute = plan.substitute[group];
        int payable = holding(house, group);
        if (substitute >= 0) {
            payable += quotient(holding(house, substitute), plan.factor[group]);
        }
        int units = Math.min(quotient(payable, plan.rate[good]), state.stock[State.shelf(shop, good)]);
        return Math.min(units, MAX_UNITS);
    }

    public int substituted(int house, int good, int units) throws IndexOutOfBoundsException {
        need(isHouse(house) && isGood(good));
        if (!areUnits(units)) {
            return BAD_VALUE;
        }
        return canPay(house, good, units) ? fromSubstitute(house, good, units) : NOT_FOUND;
    }

    public int served(int shop, int good, int units) throws IndexOutOfBoundsException {
        need(isShop(shop) && isGood(good));
        if (!areUnits(units)) {
            return BAD_VALUE;
        }
        if (isClosed(shop)) {
            return 0;
        }
        int payers = 0;
        for (int house = 0; house < plan.houses; house++) {
            if (canPay(house, good, units)) {
                payers++;
            }
        }
        return Math.min(payers, quotient(state.stock[State.shelf(shop, good)], units));
    }

    public int basketValue(int house, int shop) throws IndexOutOfBoundsException {
        need(isHouse(house) && isShop(shop));
        int trouble = fillBasket(house, shop);
        return trouble != 0 ? trouble : basket.value;
    }

    public int basketUnits(int house, int shop, int good) throws IndexOutOfBoundsException {
        need(isHouse(house) && isShop(shop) && isGood(good));
        int trouble = fillBasket(house, shop);
        return trouble != 0 ? trouble : basket.units[good];
    }

    /** Returns 0, or the code of the error that keeps the basket unfilled. */
    private int fillBasket(int house, int shop) {
        if (isClosed(shop)) {
            return IMPOSSIBLE;
        }
        for (int group = 0; group < plan.groups; group++) {
            if (holding(house, group) > MAX_BASKET_COUPONS) {
                return TOO_LARGE;
            }
        }
        basket.choose(plan, state, house, shop);
        return 0;
    }

    public int waitFor(int house, int good, int units) throws IndexOutOfBoundsException {
        need(isHouse(house) && isGood(good));
        if (!areUnits(units)) {
            return BAD_VALUE;
        }
        int group = plan.groupOf[good];
        int cost = units * plan.rate[good];
        startAhead(house, group);
        for (int periods = 0; periods <= MAX_PERIODS; periods++) {
            if (Purse.total(ahead, 0) >= cost) {
                return periods;
            }
            stepAhead(house, group);
        }
        return NOT_FOUND;
    }

    public int bestShop(int good) throws IndexOutOfBoundsException {
        need(isGood(good));
        int best = NOT_FOUND;
        int most = 0;
        for (int shop = 0; shop < plan.shops; shop++) {
            int stock = state.stock[State.shelf(shop, good)];
            if (stock > most && !isClosed(shop)) {
                best = shop;
                most = stock;
            }
        }
        return best;
    }

    public int bestHouse(int shop, int good) throws IndexOutOfBoundsException {
        need(isShop(shop) && isGood(good));
        int best = NOT_FOUND;
        int most = 0;
        for (int house = 0; house < plan.houses; house++) {
            int units = mostToBuy(house, shop, good);
            if (units > most) {
                best = house;
                most = units;
            }
        }
        return best;
    }

    public int basketCost(int house, int shop) throws IndexOutOfBoundsException {
        need(isHouse(house) && isShop(shop));
        int trouble = fillBasket(house, shop);
        if (trouble != 0) {
            return trouble;
        }
        int sum = 0;
        for (int group = 0; group < plan.groups; group++) {
            sum += basket.cost[group];
        }
        return sum;
    }

    public int basketLeft(int house, int shop, int group) throws IndexOutOfBoundsException {
        need(isHouse(house) && isShop(shop) && isGroup(group));
        int trouble = fillBasket(house, shop);
        return trouble != 0 ? trouble : holding(house, group) - basket.cost[group];
    }

    public int swapChain(int group) throws IndexOutOfBoundsException {
        need(isGroup(group));
        int reached = 1 << group;
        int next = plan.substitute[group];
        for (int count = 0; count < MAX_GROUPS; count++) {
            if (next < 0 || (reached & (1 << next)) != 0) {
                return count;
            }
            reached |= 1 << next;
            next = plan.substitute[next];
        }
        return MAX_GROUPS - 1;
    }

    public int mostDeliverable(int shop, int good) throws IndexOutOfBoundsException {
        need(isShop(shop) && isGood(good));
        int account = state.account[State.entry(shop, plan.groupOf[good])];
        int room = MAX_STOCK - state.stock[State.shelf(shop, good)];
        return Math.min(Math.min(quotient(account, plan.rate[good]), room), MAX_UNITS);
    }

    public int spreadOf(int group) throws IndexOutOfBoundsException {
        need(isGroup(group));
        if (plan.houses == 0) {
            return 0;
        }
        int least = percentEach(0, group);
        int greatest = least;
        for (int house = 1; house < plan.houses; house++) {
            int percent = percentEach(house, group);
            least = Math.min(least, percent);
            greatest = Math.max(greatest, percent);
        }
        return greatest - least;
    }

    private int percentEach(int house, int group) {
        return quotient(100 * holding(house, group), state.size[house]);
    }

    public int levelMoves(int group, int each) throws IndexOutOfBoundsException {
        need(isGroup(group));
        if (each < 0 || each > MAX_EACH) {
            return BAD_VALUE;
        }
        int wanted = 0;
        int moves = 0;
        for (int house = 0; house < plan.houses; house++) {
            int share = each * state.size[house];
            wanted += share;
            moves += Math.max(0, share - holding(house, group));
        }
        return wanted <= heldByAll(group) ? moves : NOT_FOUND;
    }

    public int lapseAfter(int house, int group, int periods) throws IndexOutOfBoundsException {
        need(isHouse(house) && isGroup(group));
        if (periods < 0 || periods > MAX_PERIODS) {
            return BAD_VALUE;
        }
        startAhead(house, group);
        int sum = 0;
        for (int step = 0; step < periods; step++) {
            sum += stepAhead(house, group);
        }
        return sum;
    }

    public int supplyPeriods(int house, int good, int units) throws IndexOutOfBoundsException {
        need(isHouse(house) && isGood(good));
        if (!areUnits(units)) {
            return BAD_VALUE;
        }
        int group = plan.groupOf[good];
        int cost = units * plan.rate[good];
        startAhead(house, group);
        for (int periods = 0; periods < MAX_PERIODS; periods++) {
            if (Purse.total(ahead, 0) < cost) {
                return periods;
            }
            Purse.spend(ahead, 0, cost);
            stepAhead(house, group);
        }
        return MAX_PERIODS;
    }

    public int buy(int house, int shop, int good, int units) {
        if (!isHouse(house) || !isShop(shop) || !isGood(good)) {
            return NOT_FOUND;
        }
        if (!areUnits(units)) {
            return BAD_VALUE;
        }
        int reason = reasonAgainst(house, shop, good, units);
        if (reason != 0) {
            return reason == CANNOT_PAY ? LACKING : IMPOSSIBLE;
        }
        history.keep(state);
        int shelf = State.shelf(shop, good);
        state.stock[shelf] -= units;
        state.sold[shelf] += units;
        state.account[State.entry(shop, plan.groupOf[good])] += units * plan.rate[good];
        pay(house, good, units);
        return holding(house, plan.groupOf[good]);
    }

    private void pay(int house, int good, int units) {
        int group = plan.groupOf[good];
        int substitute = plan.substitute[group];
        int replacing = fromSubstitute(house, good, units);
        spend(house, group, Math.min(holding(house, group), units * plan.rate[good]));
        if (substitute >= 0) {
            spend(house, substitute, replacing);
        }
    }

    private void spend(int house, int group, int count) {
        Purse.spend(state.purses, State.purse(house, group), count);
        state.spent[group] += count;
    }

    public int deliver(int shop, int good, int units) {
        if (!isShop(shop) || !isGood(good)) {
            return NOT_FOUND;
        }
        if (!areUnits(units)) {
            return BAD_VALUE;
        }
        int entry = State.entry(shop, plan.groupOf[good]);
        int shelf = State.shelf(shop, good);
        int cost = units * plan.rate[good];
        if (state.account[entry] < cost) {
            return LACKING;
        }
        if (state.stock[shelf] + units > MAX_STOCK) {
            return FULL;
        }
        history.keep(state);
        state.account[entry] -= cost;
        state.stock[shelf] += units;
        state.delivered[shelf] += units;
        return state.stock[shelf];
    }

    public int trade(int from, int to, int group, int count) {
        if (!isHouse(from) || !isHouse(to) || !isGroup(group) || from == to) {
            return NOT_FOUND;
        }
        if (count < 1 || count > MAX_TRADE) {
            return BAD_VALUE;
        }
        if (holding(from, group) < count) {
            return LACKING;
        }
        if (count > giveRoom(from) || count > takeRoom(to)) {
            return IMPOSSIBLE;
        }
        history.keep(state);
        Purse.move(state.purses, State.purse(from, group), State.purse(to, group), count);
        state.given[from] += count;
        state.taken[to] += count;
        return holding(from, group);
    }

    public int audit(int shop, int good, int counted) {
        if (!isShop(shop) || !isGood(good)) {
            return NOT_FOUND;
        }
        if (counted < 0 || counted > MAX_STOCK) {
            return BAD_VALUE;
        }
        history.keep(state);
        int shelf = State.shelf(shop, good);
        state.penalty[shop] += Math.abs(counted - state.stock[shelf]) * plan.rate[good];
        state.stock[shelf] = counted;
        return state.penalty[shop];
    }

    public int pardon(int shop) {
        if (!isShop(shop)) {
            return NOT_FOUND;
        }
        history.keep(state);
        int previous = state.penalty[shop];
        state.penalty[shop] = 0;
        return previous;
    }

    public int nextPeriod() {
        history.keep(state);
        int sum = 0;
        for (int group = 0; group < plan.groups; group++) {
            sum += endPeriodOf(group);
        }
        state.period++;
        Arrays.fill(state.given, 0);
        Arrays.fill(state.taken, 0);
        issueToAll();
        return sum;
    }

    private int endPeriodOf(int group) {
        int sum = 0;
        for (int house = 0; house < plan.houses; house++) {
            sum += Purse.growOlder(state.purses, State.purse(house, group), plan.carry[group]);
        }
        state.lapsed[group] += sum;
        return sum;
    }

    private void issueToAll() {
        for (int house = 0; house < plan.houses; house++) {
            for (int group = 0; group < plan.groups; group++) {
                int count = shareOf(house, group);
                state.purses[State.purse(house, group) + plan.life[group]] += count;
                state.issued[group] += count;
            }
        }
    }

    public int setRation(int group, int ration) {
        if (!isGroup(group)) {
            return NOT_FOUND;
        }
        if (ration < 0 || ration > MAX_RATION) {
            return BAD_VALUE;
        }
        history.keep(state);
        int previous = state.ration[group];
        state.ration[group] = ration;
        return previous;
    }

    public int setSize(int house, int size) {
        if (!isHouse(house)) {
            return NOT_FOUND;
        }
        if (size < 1 || size > MAX_SIZE) {
            return BAD_VALUE;
        }
        history.keep(state);
        int previous = state.size[house];
        state.size[house] = size;
        return previous;
    }

    public int setSetting(int setting, int value) {
        if (!isSetting(setting) || value < 0 || value > GREATEST_SETTINGS[setting]) {
            return BAD_VALUE;
        }
        history.keep(state);
        int previous = state.setting[setting];
        state.setting[setting] = value;
        return previous;
    }

    public int undo() {
        if (history.kept == 0) {
            return NOT_FOUND;
        }
        history.bringBack(state);
        return history.kept;
    }

    private static void need(boolean valid) {
        if (!valid) {
            throw new IndexOutOfBoundsException("there is no such index");
        }
    }

    private boolean isGroup(int group) {
        return group >= 0 && group < plan.groups;
    }

    private boolean isGood(int good) {
        return good >= 0 && good < plan.goods;
    }

    private boolean isHouse(int house) {
        return house >= 0 && house < plan.houses;
    }

    private boolean isShop(int shop) {
        return shop >= 0 && shop < plan.shops;
    }

    private static boolean isSetting(int setting) {
        return setting >= 0 && setting < SETTINGS;
    }

    private static boolean areUnits(int units) {
        return units >= 1 && units <= MAX_UNITS;
    }

    private static int quotient(int dividend, int divisor) {
        return divisor > 0 ? dividend / divisor : 0;
    }

    private boolean isClosed(int shop) {
        return state.penalty[shop] > state.setting[TOLERANCE];
    }

    private int holding(int house, int group) {
        return Purse.total(state.purses, State.purse(house, group));
    }

    private int heldByAll(int group) {
        int sum = 0;
        for (int house = 0; house < plan.houses; house++) {
            sum += holding(house, group);
        }
        return sum;
    }

    private int shareOf(int house, int group) {
        return state.size[house] * state.ration[group];
    }

    /** Limits may have been lowered below what was given, so that no room would be less than nothing. */
    private int giveRoom(int house) {
        return Math.max(0, state.setting[GIVE] - state.given[house]);
    }

    private int takeRoom(int house) {
        return Math.max(0, state.setting[TAKE] - state.taken[house]);
    }

    private int mostToGive(int house, int group) {
        return Math.min(holding(house, group), giveRoom(house));
    }

    private int fromSubstitute(int house, int good, int units) {
        int group = plan.groupOf[good];
        int missing = units * plan.rate[good] - holding(house, group);
        return Math.max(0, missing) * plan.factor[group];
    }

    private boolean canPay(int house, int good, int units) {
        int group = plan.groupOf[good];
        int substitute = plan.substitute[group];
        if (substitute < 0) {
            return holding(house, group) >= units * plan.rate[good];
        }
        return holding(house, substitute) >= fromSubstitute(house, good, units);
    }

    private void startAhead(int house, int group) {
        System.arraycopy(state.purses, State.purse(house, group), ahead, 0, PLACES);
    }

    /** Returns how many coupons lapse in this step. */
    private int stepAhead(int house, int group) {
        int gone = Purse.growOlder(ahead, 0, plan.carry[group]);
        ahead[plan.life[group]] += shareOf(house, group);
        return gone;
    }

    /** The coupons of one house and group: PLACES elements of a row, from an index on. */
    private static final class Purse {
        static int total(int[] row, int at) {
            int sum = 0;
            for (int left = 0; left < PLACES; left++) {
                sum += row[at + left];
            }
            return sum;
        }

        static void spend(int[] row, int at, int count) {
            int rest = count;
            for (int left = 0; left < PLACES; left++) {
                int part = Math.min(rest, row[at + left]);
                row[at + left] -= part;
                rest -= part;
            }
        }

        static void move(int[] row, int from, int to, int count) {
            int rest = count;
            for (int left = 0; left < PLACES; left++) {
                int part = Math.min(rest, row[from + left]);
                row[from + left] -= part;
                row[to + left] += part;
                rest -= part;
            }
        }

        /** Ends a period, without the issue of the next one, and returns how many coupons lapse. */
        static int growOlder(int[] row, int at, int carry) {
            int ending = row[at] + row[at + 1];
            int carried = row[at + 1] * carry / 100;
            row[at] = carried;
            for (int left = 1; left < MAX_LIFE; left++) {
                row[at + left] = row[at + left + 1];
            }
            row[at + MAX_LIFE] = 0;
            return ending - carried;
        }
    }

    /** What a text declares and no change touches. */
    private static final class Plan {
        int groups = 0;
        int goods = 0;
        int houses = 0;
        int shops = 0;
        final int[] groupNames = new int[MAX_GROUPS];
        final int[] goodNames = new int[MAX_GOODS];
        final int[] houseNames = new int[MAX_HOUSES];
        final int[] shopNames = new int[MAX_SHOPS];
        final int[] life = new int[MAX_GROUPS];
        final int[] carry = new int[MAX_GROUPS];
        final int[] substitute = new int[MAX_GROUPS];
        final int[] factor = new int[MAX_GROUPS];
        final int[] groupOf = new int[MAX_GOODS];
        final int[] rate = new int[MAX_GOODS];
        final int[] value = new int[MAX_GOODS];

        /** The rows need no clearing: each declaration sets all that belongs to it. */
        void clear() {
            groups = 0;
            goods = 0;
            houses = 0;
            shops = 0;
        }

        static int find(int[] names, int count, int letters) {
            for (int index = 0; index < count; index++) {
                if (names[index] == letters) {
                    return index;
                }
            }
            return NOT_FOUND;
        }

        boolean isDeclared(int letters) {
            return find(groupNames, groups, letters) >= 0 || find(goodNames, goods, letters) >= 0
                || find(houseNames, houses, letters) >= 0 || find(shopNames, shops, letters) >= 0;
        }
    }

    /** What changes touch, and undo brings back. */
    private static final class State {
        int period = 0;
        final int[] ration = new int[MAX_GROUPS];
        final int[] size = new int[MAX_HOUSES];
        final int[] setting = new int[SETTINGS];
        final int[] purses = new int[MAX_HOUSES * MAX_GROUPS * PLACES];
        final int[] given = new int[MAX_HOUSES];
        final int[] taken = new int[MAX_HOUSES];
        final int[] stock = new int[MAX_SHOPS * MAX_GOODS];
        final int[] account = new int[MAX_SHOPS * MAX_GROUPS];
        final int[] penalty = new int[MAX_SHOPS];
        final int[] sold = new int[MAX_SHOPS * MAX_GOODS];
        final int[] delivered = new int[MAX_SHOPS * MAX_GOODS];
        final int[] issued = new int[MAX_GROUPS];
        final int[] spent = new int[MAX_GROUPS];
        final int[] lapsed = new int[MAX_GROUPS];

        State() {
            copy(FIRST_SETTINGS, setting);
        }

        static int purse(int house, int group) {
            return (house * MAX_GROUPS + group) * PLACES;
        }

        static int shelf(int shop, int good) {
            return shop * MAX_GOODS + good;
        }

        static int entry(int shop, int group) {
            return shop * MAX_GROUPS + group;
        }

        private static void copy(int[] from, int[] to) {
            System.arraycopy(from, 0, to, 0, Math.min(from.length, to.length));
        }

        void clear() {
            period = 0;
            Arrays.fill(ration, 0);
            Arrays.fill(size, 0);
            copy(FIRST_SETTINGS, setting);
            Arrays.fill(purses, 0);
            Arrays.fill(given, 0);
            Arrays.fill(taken, 0);
            Arrays.fill(stock, 0);
            Arrays.fill(account, 0);
            Arrays.fill(penalty, 0);
            Arrays.fill(sold, 0);
            Arrays.fill(delivered, 0);
            Arrays.fill(issued, 0);
            Arrays.fill(spent, 0);
            Arrays.fill(lapsed, 0);
        }

        void become(State other) {
            period = other.period;
            copy(other.ration, ration);
            copy(other.size, size);
            copy(other.setting, setting);
            copy(other.purses, purses);
            copy(other.given, given);
            copy(other.taken, taken);
            copy(other.stock, stock);
            copy(other.account, account);
            copy(other.penalty, penalty);
            copy(other.sold, sold);
            copy(other.delivered, delivered);
            copy(other.issued, issued);
            copy(other.spent, spent);
            copy(other.lapsed, lapsed);
        }
    }

    /** The states before the latest changes, in a ring: an eleventh one takes the place of the oldest. */
    private static final class History {
        private final State[] ring = new State[MAX_CHANGES];
        private int next = 0;
        int kept = 0;

        History() {
            for (int index = 0; index < MAX_CHANGES; index++) {
                ring[index] = new State();
            }
        }

        void forget() {
            kept = 0;
        }

        void keep(State state) {
            ring[next].become(state);
            next = (next + 1) % MAX_CHANGES;
            kept = Math.min(kept + 1, MAX_CHANGES);
        }

        void bringBack(State state) {
            next = (next + MAX_CHANGES - 1) % MAX_CHANGES;
            state.become(ring[next]);
            kept = Math.max(kept - 1, 0);
        }
    }

    /** The best basket. Goods of different groups do not compete, so each group is a knapsack of its own. */
    private static final class Basket {
        /** By a good and a number of coupons: the best value of this good and those behind it for at most so many. */
        private final int[][] best = new int[MAX_GOODS + 1][MAX_BASKET_COUPONS + 1];
        final int[] units = new int[MAX_GOODS];
        final int[] cost = new int[MAX_GROUPS];
        int value = 0;

        /** To be called only if the house holds at most MAX_BASKET_COUPONS of each group. */
        void choose(Plan plan, State state, int house, int shop) {
            value = 0;
            Arrays.fill(best[plan.goods], 0);
            for (int group = 0; group < plan.groups; group++) {
                int held = Math.min(Purse.total(state.purses, State.purse(house, group)), MAX_BASKET_COUPONS);
                weigh(plan, state, shop, group, held);
                value += best[0][held];
                cost[group] = cheapest(held);
                fill(plan, state, shop, group);
            }
        }

        private void weigh(Plan plan, State state, int shop, int group, int held) {
            for (int good = plan.goods - 1; good >= 0; good--) {
                System.arraycopy(best[good + 1], 0, best[good], 0, held + 1);
                if (plan.groupOf[good] == group) {
                    int most = Math.min(state.stock[State.shelf(shop, good)], quotient(held, plan.rate[good]));
                    addUnits(good, most, plan.rate[good], plan.value[good], held);
                }
            }
        }

        /** Adds in lots of 1, 2, 4 and so on, and the rest: they make up every number of units with few passes. */
        private void addUnits(int good, int most, int rate, int worth, int held) {
            int rest = most;
            for (int lot = 1; lot <= most && lot <= MAX_BASKET_COUPONS; lot *= 2) {
                int count = Math.min(lot, rest);
                addLot(best[good], count * rate, count * worth, held);
                rest -= count;
            }
        }

        private static void addLot(int[] row, int price, int worth, int held) {
            for (int spent = held; spent >= price; spent--) {
                row[spent] = Math.max(row[spent], row[spent - price] + worth);
            }
        }

        private int cheapest(int held) {
            for (int spent = 0; spent < held; spent++) {
                if (best[0][spent] == best[0][held]) {
                    return spent;
                }
            }
            return held;
        }

        private void fill(Plan plan, State state, int shop, int group) {
            int rest = cost[group];
            for (int good = 0; good < plan.goods; good++) {
                if (plan.groupOf[good] == group) {
                    int most = Math.min(state.stock[State.shelf(shop, good)], quotient(rest, plan.rate[good]));
                    units[good] = mostWithoutLoss(good, most, plan.rate[good], plan.value[good], rest);
                    rest -= units[good] * plan.rate[good];
                }
            }
        }

        private int mostWithoutLoss(int good, int most, int rate, int worth, int rest) {
            for (int count = most; count > 0; count--) {
                if (best[good + 1][rest - count * rate] + count * worth == best[good][rest]) {
                    return count;
                }
            }
            return 0;
        }
    }

    /** Parts a text into tokens; the present one is between start and end. */
    private static final class Tokens {
        static final int END = 0, WORD = 1, INTEGER = 2, SEMICOLON = 3, STRANGE = 4;
        /** Greater than every number that is allowed in a text. */
        private static final int HUGE = 100000;
        private static final int NAME_LETTERS = 6;

        private int[] text = new int[0];
        private int length = 0;
        private int end = 0;
        int start = 0;
        int kind = END;

        void open(int[] newText, int newLength) {
            text = newText;
            length = Math.min(newLength, newText.length);
            end = 0;
            advance();
        }

        void advance() {
            int at = end;
            while (at < length && (text[at] == ' ' || text[at] == '\n')) {
                at++;
            }
            start = at;
            kind = kindAt(at);
            at = Math.min(at + 1, length);
            boolean isRun = kind == WORD || kind == INTEGER;
            while (isRun && at < length && kindAt(at) == kind) {
                at++;
            }
            end = at;
        }

        private int kindAt(int at) {
            if (at >= length) {
                return END;
            }
            int sign = text[at];
            if (sign >= 'a' && sign <= 'z') {
                return WORD;
            }
            if (sign >= '0' && sign <= '9') {
                return INTEGER;
            }
            return sign == ';' ? SEMICOLON : STRANGE;
        }

        boolean isWord(String word) {
            if (kind != WORD || end - start != word.length()) {
                return false;
            }
            for (int index = 0; index < word.length(); index++) {
                if (text[start + index] != word.charAt(index)) {
                    return false;
                }
            }
            return true;
        }

        boolean isName() {
            return kind == WORD && end - start <= NAME_LETTERS
                && !isWord("group") && !isWord("swap") && !isWord("good") && !isWord("house") && !isWord("shop")
                && !isWord("set") && !isWord("give") && !isWord("take") && !isWord("tolerance");
        }

        /** The setting of which the token is the name. */
        int settingWord() {
            if (isWord("give")) {
                return GIVE;
            }
            if (isWord("take")) {
                return TAKE;
            }
            return isWord("tolerance") ? TOLERANCE : NOT_FOUND;
        }

        /** A name's letters as the callers of the office give them: six groups of 5 bits. */
        int letters() {
            int code = 0;
            for (int index = 0; index < NAME_LETTERS; index++) {
                code = (code << 5) | (start + index < end ? text[start + index] - 'a' + 1 : 0);
            }
            return code;
        }

        /** Stops growing at HUGE, since an integer may have any length. */
        int integer() {
            int number = 0;
            for (int at = start; at < end; at++) {
                number = Math.min(number * 10 + text[at] - '0', HUGE);
            }
            return number;
        }
    }

    /**
     * Reads a text into a plan and a state of its own. Only the first error is kept; the methods that read do nothing
     * behind it and answer 0.
     */
    private static final class Loader {
        private static final int MAX_FACTOR = 9;
        private static final int MAX_RATE = 20;
        private static final int MAX_VALUE = 99;
        private static final int MAX_CARRY = 100;
        private static final int MAX_FIRST_STOCK = 9999;

        private final Tokens tokens = new Tokens();
        private int settingsGiven = 0;
        Plan plan = new Plan();
        State state = new State();
        int error = 0;
        int errorAt = NOT_FOUND;

        /** Returns the number of statements before the end or the first error. */
        int read(int[] text, int length) {
            plan.clear();
            state.clear();
            settingsGiven = 0;
            error = 0;
            errorAt = NOT_FOUND;
            tokens.open(text, length);
            int statements = 0;
            while (statements < MAX_BYTES && error == 0 && tokens.kind != Tokens.END) {
                readStatement();
                readSemicolon();
                statements++;
            }
            return statements;
        }

        private void fail(int code) {
            if (error == 0) {
                error = code;
                errorAt = tokens.start;
            }
        }

        private void readStatement() {
            if (tokens.isWord("group")) {
                readGroup();
            } else if (tokens.isWord("swap")) {
                readSwap();
            } else if (tokens.isWord("good")) {
                readGood();
            } else if (tokens.isWord("house")) {
                readHouse();
            } else if (tokens.isWord("shop")) {
                readShop();
            } else if (tokens.isWord("set")) {
                readSetting();
            } else {
                fail(SYNTAX_ERROR);
            }
        }

        private void readSemicolon() {
            if (tokens.kind != Tokens.SEMICOLON) {
                fail(SYNTAX_ERROR);
            }
            if (error == 0) {
                tokens.advance();
            }
        }

        private int readInteger(int least, int greatest) {
            if (tokens.kind != Tokens.INTEGER) {
                fail(SYNTAX_ERROR);
            }
            int number = tokens.integer();
            if (number < least || number > greatest) {
                fail(RANGE_ERROR);
            }
            if (error != 0) {
                return 0;
            }
            tokens.advance();
            return number;
        }

        private int readNewName() {
            if (!tokens.isName()) {
                fail(SYNTAX_ERROR);
            }
            int letters = tokens.letters();
            if (plan.isDeclared(letters)) {
                fail(DUPLICATE_ERROR);
            }
            if (error != 0) {
                return 0;
            }
            tokens.advance();
            return letters;
        }

        /** Leaves the token, so that its caller can find more errors at it. */
        private int seeName(int[] names, int count) {
            if (!tokens.isName()) {
                fail(SYNTAX_ERROR);
            }
            int index = Plan.find(names, count, tokens.letters());
            if (index < 0) {
                fail(NAME_ERROR);
            }
            return error == 0 ? index : 0;
        }

        private void passUnless(boolean duplicate) {
            if (duplicate) {
                fail(DUPLICATE_ERROR);
            }
            if (error == 0) {
                tokens.advance();
            }
        }

        private void readGroup() {
            int group = plan.groups;
            if (group >= MAX_GROUPS) {
                fail(COUNT_ERROR);
                return;
            }
            tokens.advance();
            plan.groupNames[group] = readNewName();
            state.ration[group] = readInteger(0, MAX_RATION);
            plan.life[group] = readInteger(1, MAX_LIFE);
            plan.carry[group] = readInteger(0, MAX_CARRY);
            plan.substitute[group] = NOT_FOUND;
            plan.factor[group] = 0;
            plan.groups++;
        }

        private void readSwap() {
            tokens.advance();
            int group = seeName(plan.groupNames, plan.groups);
            passUnless(plan.substitute[group] >= 0);
            int substitute = seeName(plan.groupNames, plan.groups);
            passUnless(substitute == group);
            plan.factor[group] = readInteger(1, MAX_FACTOR);
            plan.substitute[group] = substitute;
        }

        private void readGood() {
            int good = plan.goods;
            if (good >= MAX_GOODS) {
                fail(COUNT_ERROR);
                return;
            }
            tokens.advance();
            plan.goodNames[good] = readNewName();
            plan.groupOf[good] = seeName(plan.groupNames, plan.groups);
            passUnless(false);
            plan.rate[good] = readInteger(1, MAX_RATE);
            plan.value[good] = readInteger(0, MAX_VALUE);
            plan.goods++;
        }

        private void readHouse() {
            int house = plan.houses;
            if (house >= MAX_HOUSES) {
                fail(COUNT_ERROR);
                return;
            }
            tokens.advance();
            plan.houseNames[house] = readNewName();
            state.size[house] = readInteger(1, MAX_SIZE);
            plan.houses++;
        }

        private void readShop() {
            int shop = plan.shops;
            if (shop >= MAX_SHOPS) {
                fail(COUNT_ERROR);
                return;
            }
            tokens.advance();
            plan.shopNames[shop] = readNewName();
            plan.shops++;
            int listed = 0;
            // One turn more than there are goods, for the good that is given again.
            for (int turn = 0; turn <= MAX_GOODS && error == 0 && tokens.kind == Tokens.WORD; turn++) {
                int good = seeName(plan.goodNames, plan.goods);
                passUnless((listed & (1 << good)) != 0);
                listed |= 1 << good;
                state.stock[State.shelf(shop, good)] = readInteger(0, MAX_FIRST_STOCK);
            }
        }

        private void readSetting() {
            tokens.advance();
            int setting = tokens.settingWord();
            if (setting < 0) {
                fail(SYNTAX_ERROR);
                return;
            }
            passUnless((settingsGiven & (1 << setting)) != 0);
            settingsGiven |= 1 << setting;
            state.setting[setting] = readInteger(0, GREATEST_SETTINGS[setting]);
        }
    }
}
