import java.math.BigInteger;
import java.util.ArrayList;
import java.util.Arrays;
import java.util.Collections;
import java.util.HashSet;
import java.util.List;
import java.util.Set;
import java.util.regex.Matcher;
import java.util.regex.Pattern;

/**
 * The document's office in the plainest form: each coupon is an element of a list, searches try everything. It has the
 * methods of RationOffice by name, so that a test can call both alike.
 */
final class Model {
    private static final int NOT_FOUND = -1, BAD_VALUE = -2, FULL = -3, TOO_LARGE = -4, LACKING = -5, IMPOSSIBLE = -6;

    static final class Group {
        String name;
        int ration, life, carry, substitute = -1, factor, issued, spent, lapsed;
    }

    static final class Good {
        String name;
        int group, rate, value;
    }

    static final class House {
        String name;
        int size, given, taken;
        /** By group, the periods that each coupon has left, 0 for a carried one; in rising order. */
        List<List<Integer>> coupons = new ArrayList<>();
    }

    static final class Shop {
        String name;
        int penalty;
        int[] stock = new int[6], sold = new int[6], delivered = new int[6], account = new int[4];
    }

    static final class Office {
        List<Group> groups = new ArrayList<>();
        List<Good> goods = new ArrayList<>();
        List<House> houses = new ArrayList<>();
        List<Shop> shops = new ArrayList<>();
        int[] settings = {20, 20, 10};
        int period;

        Office copy() {
            Office copy = new Office();
            for (Group old : groups) {
                Group group = new Group();
                group.name = old.name;
                group.ration = old.ration;
                group.life = old.life;
                group.carry = old.carry;
                group.substitute = old.substitute;
                group.factor = old.factor;
                group.issued = old.issued;
                group.spent = old.spent;
                group.lapsed = old.lapsed;
                copy.groups.add(group);
            }
            copy.goods.addAll(goods);
            for (House old : houses) {
                House house = new House();
                house.name = old.name;
                house.size = old.size;
                house.given = old.given;
                house.taken = old.taken;
                for (List<Integer> coupons : old.coupons) {
                    house.coupons.add(new ArrayList<>(coupons));
                }
                copy.houses.add(house);
            }
            for (Shop old : shops) {
                Shop shop = new Shop();
                shop.name = old.name;
                shop.penalty = old.penalty;
                shop.stock = old.stock.clone();
                shop.sold = old.sold.clone();
                shop.delivered = old.delivered.clone();
                shop.account = old.account.clone();
                copy.shops.add(shop);
            }
            copy.settings = settings.clone();
            copy.period = period;
            return copy;
        }

        int issue() {
            int sum = 0;
            for (House house : houses) {
                for (int group = 0; group < groups.size(); group++) {
                    int count = house.size * groups.get(group).ration;
                    for (int index = 0; index < count; index++) {
                        house.coupons.get(group).add(groups.get(group).life);
                    }
                    Collections.sort(house.coupons.get(group));
                    groups.get(group).issued += count;
                    sum += count;
                }
            }
            return sum;
        }

        int end() {
            int sum = 0;
            for (House house : houses) {
                house.given = 0;
                house.taken = 0;
                for (int group = 0; group < groups.size(); group++) {
                    List<Integer> old = house.coupons.get(group);
                    int kept = Collections.frequency(old, 1) * groups.get(group).carry / 100;
                    List<Integer> now = new ArrayList<>(Collections.nCopies(kept, 0));
                    for (int left : old) {
                        if (left > 1) {
                            now.add(left - 1);
                        }
                    }
                    house.coupons.set(group, now);
                    groups.get(group).lapsed += old.size() - now.size();
                    sum += old.size() - now.size();
                }
            }
            period++;
            issue();
            return sum;
        }
    }

    private Office office = new Office();
    private final List<Office> changes = new ArrayList<>();
    private final StringBuilder buffer = new StringBuilder();
    private int position = NOT_FOUND;

    public int feed(int a, int b, int c, int d, int e) {
        if (buffer.length() > 780) {
            return FULL;
        }
        for (int word : new int[] {a, b, c, d, e}) {
            for (byte one : BigInteger.valueOf(word & 0xffffffffL | 1L << 32).toByteArray()) {
                buffer.append((char) (one & 255));
            }
            buffer.deleteCharAt(buffer.length() - 5);
        }
        return buffer.length();
    }

    public int load(int length) {
        if (length < 0 || length > buffer.length()) {
            return BAD_VALUE;
        }
        String text = buffer.substring(0, length);
        buffer.setLength(0);
        Parser parser = new Parser(text);
        try {
            int statements = parser.parse();
            office = parser.office;
            office.issue();
            changes.clear();
            position = NOT_FOUND;
            return statements;
        } catch (Failure failure) {
            position = failure.position;
            return failure.code;
        }
    }

    static final class Failure extends RuntimeException {
        private static final long serialVersionUID = 1;
        final int code, position;

        Failure(int code, int position) {
            this.code = code;
            this.position = position;
        }
    }

    static final class Parser {
        final Office office = new Office();
        private final List<String> tokens = new ArrayList<>();
        private final List<Integer> starts = new ArrayList<>();
        private final Set<String> declared = new HashSet<>();
        private final Set<String> set = new HashSet<>();
        private int at = 0;

        Parser(String text) {
            Matcher matcher = Pattern.compile("[a-z]+|[0-9]+|[^ \n]", Pattern.DOTALL).matcher(text);
            while (matcher.find()) {
                tokens.add(matcher.group());
                starts.add(matcher.start());
            }
            tokens.add("");
            starts.add(text.length());
        }

        int parse() {
            int statements = 0;
            while (!tokens.get(at).isEmpty()) {
                statement();
                if (!tokens.get(at).equals(";")) {
                    throw failure(-11);
                }
                at++;
                statements++;
            }
            return statements;
        }

        private Failure failure(int code) {
            return new Failure(code, starts.get(at));
        }

        private void statement() {
            String word = tokens.get(at);
            if (word.equals("group")) {
                count(office.groups.size(), 4);
                Group group = new Group();
                group.name = newName();
                group.ration = number(0, 99);
                group.life = number(1, 4);
                group.carry = number(0, 100);
                office.groups.add(group);
                for (House house : office.houses) {
                    house.coupons.add(new ArrayList<>());
                }
            } else if (word.equals("swap")) {
                at++;
                int first = groupIndex();
                if (office.groups.get(first).substitute >= 0) {
                    throw failure(-14);
                }
                at++;
                int second = groupIndex();
                if (second == first) {
                    throw failure(-14);
                }
                at++;
                office.groups.get(first).factor = number(1, 9);
                office.groups.get(first).substitute = second;
            } else if (word.equals("good")) {
                count(office.goods.size(), 6);
                Good good = new Good();
                good.name = newName();
                good.group = groupIndex();
                at++;
                good.rate = number(1, 20);
                good.value = number(0, 99);
                office.goods.add(good);
            } else if (word.equals("house")) {
                count(office.houses.size(), 6);
                House house = new House();
                house.name = newName();
                house.size = number(1, 9);
                for (int group = 0; group < office.groups.size(); group++) {
                    house.coupons.add(new ArrayList<>());
                }
                office.houses.add(house);
            } else if (word.equals("shop")) {
                shop();
            } else if (word.equals("set")) {
                at++;
                int setting = Arrays.asList("give", "take", "tolerance").indexOf(tokens.get(at));
                if (setting < 0) {
                    throw failure(-11);
                }
                if (!set.add(tokens.get(at))) {
                    throw failure(-14);
                }
                at++;
                office.settings[setting] = number(0, setting == 2 ? 9999 : 999);
            } else {
                throw failure(-11);
            }
        }

        private void shop() {
            count(office.shops.size(), 4);
            Shop shop = new Shop();
            shop.name = newName();
            Set<String> listed = new HashSet<>();
            while (!tokens.get(at).equals(";")) {
                String name = name();
                int good = 0;
                while (good < office.goods.size() && !office.goods.get(good).name.equals(name)) {
                    good++;
                }
                if (good == office.goods.size()) {
                    throw failure(-13);
                }
                if (!listed.add(name)) {
                    throw failure(-14);
                }
                at++;
                shop.stock[good] = number(0, 9999);
            }
            office.shops.add(shop);
        }

        private void count(int present, int most) {
            if (present == most) {
                throw failure(-15);
            }
            at++;
        }

        private String name() {
            String word = tokens.get(at);
            if (!word.matches("[a-z]{1,6}") || word.matches("group|swap|good|house|shop|set|give|take|tolerance")) {
                throw failure(-11);
            }
            return word;
        }

        private String newName() {
            String name = name();
            if (!declared.add(name)) {
                throw failure(-14);
            }
            at++;
            return name;
        }

        private int groupIndex() {
            String name = name();
            for (int group = 0; group < office.groups.size(); group++) {
                if (office.groups.get(group).name.equals(name)) {
                    return group;
                }
            }
            throw failure(-13);
        }

        private int number(int least, int most) {
            if (!tokens.get(at).matches("[0-9]+")) {
                throw failure(-11);
            }
            BigInteger number = new BigInteger(tokens.get(at));
            if (number.compareTo(BigInteger.valueOf(least)) < 0 || number.compareTo(BigInteger.valueOf(most)) > 0) {
                throw failure(-12);
            }
            at++;
            return number.intValue();
        }
    }

    public int errorPosition() {
        return position;
    }

    public int groupCount() {
        return office.groups.size();
    }

    public int goodCount() {
        return office.goods.size();
    }

    public int houseCount() {
        return office.houses.size();
    }

    public int shopCount() {
        return office.shops.size();
    }

    public int undoCount() {
        return changes.size();
    }

    public int period() {
        return office.period;
    }

    private static int position(List<String> names, int letters) {
        for (int index = 0; index < names.size(); index++) {
            if (Texts.letters(names.get(index)) == letters) {
                return index;
            }
        }
        return NOT_FOUND;
    }

    public int groupNamed(int letters) {
        List<String> names = new ArrayList<>();
        office.groups.forEach(group -> names.add(group.name));
        return position(names, letters);
    }

    public int goodNamed(int letters) {
        List<String> names = new ArrayList<>();
        office.goods.forEach(good -> names.add(good.name));
        return position(names, letters);
    }

    public int houseNamed(int letters) {
        List<String> names = new ArrayList<>();
        office.houses.forEach(house -> names.add(house.name));
        return position(names, letters);
    }

    public int shopNamed(int letters) {
        List<String> names = new ArrayList<>();
        office.shops.forEach(shop -> names.add(shop.name));
        return position(names, letters);
    }

    private static void within(int index, List<?> list) {
        if (index < 0 || index >= list.size()) {
            throw new IndexOutOfBoundsException();
        }
    }

    private Group group(int group) {
        within(group, office.groups);
        return office.groups.get(group);
    }

    private Good good(int good) {
        within(good, office.goods);
        return office.goods.get(good);
    }

    private House house(int house) {
        within(house, office.houses);
        return office.houses.get(house);
    }

    private Shop shop(int shop) {
        within(shop, office.shops);
        return office.shops.get(shop);
    }

    private static boolean out(int value, int least, int most) {
        return value < least || value > most;
    }

    private boolean missing(int index, List<?> list) {
        return out(index, 0, list.size() - 1);
    }

    public int groupProperty(int group, int what) {
        Group it = group(group);
        return out(what, 0, 4) ? BAD_VALUE : new int[] {it.ration, it.life, it.carry, it.substitute, it.factor}[what];
    }

    public int goodProperty(int good, int what) {
        Good it = good(good);
        return out(what, 0, 2) ? BAD_VALUE : new int[] {it.group, it.rate, it.value}[what];
    }

    public int sizeOf(int house) {
        return house(house).size;
    }

    public int getSetting(int setting) {
        return out(setting, 0, 2) ? BAD_VALUE : office.settings[setting];
    }

    private List<Integer> purse(int house, int group) {
        house(house);
        group(group);
        return office.houses.get(house).coupons.get(group);
    }

    public int coupons(int house, int group) {
        return purse(house, group).size();
    }

    public int couponsWith(int house, int group, int left) {
        List<Integer> purse = purse(house, group);
        return out(left, 0, 4) ? BAD_VALUE : Collections.frequency(purse, left);
    }

    public int lapsing(int house, int group) {
        return lapseAfter(house, group, 1);
    }

    public int couponsAfter(int house, int group, int periods) {
        purse(house, group);
        if (out(periods, 0, 50)) {
            return BAD_VALUE;
        }
        Office later = office.copy();
        for (int step = 0; step < periods; step++) {
            later.end();
        }
        return later.houses.get(house).coupons.get(group).size();
    }

    public int lapseAfter(int house, int group, int periods) {
        purse(house, group);
        if (out(periods, 0, 50)) {
            return BAD_VALUE;
        }
        Office later = office.copy();
        int issued = 0;
        for (int step = 0; step < periods; step++) {
            later.end();
            issued += office.houses.get(house).size * office.groups.get(group).ration;
        }
        return coupons(house, group) + issued - later.houses.get(house).coupons.get(group).size();
    }

    public int neediest(int group) {
        group(group);
        int best = NOT_FOUND;
        double least = Double.MAX_VALUE;
        for (int house = 0; house < houseCount(); house++) {
            double quotient = (double) coupons(house, group) / sizeOf(house);
            if (quotient < least - 1e-9) {
                least = quotient;
                best = house;
            }
        }
        return best;
    }

    public int givenBy(int house) {
        return house(house).given;
    }

    public int takenBy(int house) {
        return house(house).taken;
    }

    public int tradeRoom(int from, int to, int group) {
        house(from);
        house(to);
        group(group);
        int most = 0;
        for (int count = 1; count <= 999; count++) {
            if (tradeAnswer(from, to, group, count) >= 0) {
                most = count;
            }
        }
        return most;
    }

    public int helpers(int house, int group, int wanted) {
        int lacking = wanted - purse(house, group).size();
        if (out(wanted, 0, 9999)) {
            return BAD_VALUE;
        }
        if (lacking <= 0) {
            return 0;
        }
        int fewest = 99;
        for (int set = 0; set < 1 << houseCount(); set++) {
            int sum = 0;
            for (int giver = 0; giver < houseCount(); giver++) {
                if ((set >> giver & 1) == 1) {
                    sum += Math.max(0, Math.min(coupons(giver, group), office.settings[0] - givenBy(giver)));
                }
            }
            if (sum >= lacking && (set >> house & 1) == 0) {
                fewest = Math.min(fewest, Integer.bitCount(set));
            }
        }
        return fewest == 99 || takenBy(house) + lacking > office.settings[1] ? NOT_FOUND : fewest;
    }

    public int stockOf(int shop, int good) {
        good(good);
        return shop(shop).stock[good];
    }

    public int accountOf(int shop, int group) {
        group(group);
        return shop(shop).account[group];
    }

    public int penaltyOf(int shop) {
        return shop(shop).penalty;
    }

    public boolean isSuspended(int shop) {
        return shop(shop).penalty > office.settings[2];
    }

    public int soldBy(int shop, int good) {
        good(good);
        return shop(shop).sold[good];
    }

    public int deliveredTo(int shop, int good) {
        good(good);
        return shop(shop).delivered[good];
    }

    public int turnover(int shop) {
        shop(shop);
        int sum = 0;
        for (int good = 0; good < goodCount(); good++) {
            sum += soldBy(shop, good) * good(good).rate;
        }
        return sum;
    }

    public int issued(int group) {
        return group(group).issued;
    }

    public int spent(int group) {
        return group(group).spent;
    }

    public int lapsed(int group) {
        return group(group).lapsed;
    }

    /** By the books: what was issued is held, spent or lapsed. */
    public int held(int group) {
        return issued(group) - spent(group) - lapsed(group);
    }

    /** Coupons of the group and of the substitute that units cost, or null if the house cannot pay. */
    private int[] price(int house, int good, int units) {
        Group group = group(good(good).group);
        int own = coupons(house, good(good).group);
        int cost = units * good(good).rate;
        if (own >= cost) {
            return new int[] {cost, 0};
        }
        if (group.substitute < 0 || (cost - own) * group.factor > coupons(house, group.substitute)) {
            return null;
        }
        return new int[] {own, (cost - own) * group.factor};
    }

    public int reasonFor(int house, int shop, int good, int units) {
        house(house);
        shop(shop);
        good(good);
        if (out(units, 1, 9999)) {
            return BAD_VALUE;
        }
        if (isSuspended(shop)) {
            return 1;
        }
        if (stockOf(shop, good) < units) {
            return 2;
        }
        return price(house, good, units) == null ? 3 : 0;
    }

    public int mostUnits(int house, int shop, int good) {
        house(house);
        shop(shop);
        good(good);
        int most = 0;
        while (most < 9999 && reasonFor(house, shop, good, most + 1) == 0) {
            most++;
        }
        return most;
    }

    public int substituted(int house, int good, int units) {
        house(house);
        good(good);
        if (out(units, 1, 9999)) {
            return BAD_VALUE;
        }
        int[] price = price(house, good, units);
        return price == null ? NOT_FOUND : price[1];
    }

    public int served(int shop, int good, int units) {
        shop(shop);
        good(good);
        if (out(units, 1, 9999)) {
            return BAD_VALUE;
        }
        int houses = 0;
        int stock = stockOf(shop, good);
        for (int house = 0; house < houseCount() && !isSuspended(shop); house++) {
            if (price(house, good, units) != null && stock >= units) {
                stock -= units;
                houses++;
            }
        }
        return houses;
    }

    /** The best basket by trying them all in the order of the ties, or null behind the code in trouble[0]. */
    private int[] basket(int house, int shop, int[] trouble) {
        trouble[0] = 0;
        if (isSuspended(shop)) {
            trouble[0] = IMPOSSIBLE;
            return null;
        }
        int[] left = new int[4];
        for (int group = 0; group < groupCount(); group++) {
            left[group] = coupons(house, group);
            if (left[group] > 400) {
                trouble[0] = TOO_LARGE;
                return null;
            }
        }
        bestUnits = null;
        tryUnits(shop, 0, new int[6], left, 0, 0);
        return bestUnits;
    }

    private int[] bestUnits;
    private int bestValue, bestCost;

    private void tryUnits(int shop, int good, int[] units, int[] left, int value, int cost) {
        if (good == goodCount()) {
            if (bestUnits == null || value > bestValue || value == bestValue && cost < bestCost) {
                bestUnits = units.clone();
                bestValue = value;
                bestCost = cost;
            }
            return;
        }
        Good it = good(good);
        for (int count = Math.min(stockOf(shop, good), left[it.group] / it.rate); count >= 0; count--) {
            units[good] = count;
            left[it.group] -= count * it.rate;
            tryUnits(shop, good + 1, units, left, value + count * it.value, cost + count * it.rate);
            left[it.group] += count * it.rate;
        }
    }

    /** How many baskets there are to try at most, so that a test can leave out what takes too long. */
    double baskets(int house, int shop) {
        double product = 1;
        for (int good = 0; good < goodCount(); good++) {
            int held = coupons(house, good(good).group);
            product *= 1 + Math.min(stockOf(shop, good), held / good(good).rate);
        }
        return product;
    }

    public int basketValue(int house, int shop) {
        house(house);
        shop(shop);
        int[] trouble = new int[1];
        basket(house, shop, trouble);
        return trouble[0] != 0 ? trouble[0] : bestValue;
    }

    public int basketUnits(int house, int shop, int good) {
        house(house);
        shop(shop);
        good(good);
        int[] trouble = new int[1];
        int[] units = basket(house, shop, trouble);
        return trouble[0] != 0 ? trouble[0] : units[good];
    }

    public int basketCost(int house, int shop) {
        house(house);
        shop(shop);
        int[] trouble = new int[1];
        basket(house, shop, trouble);
        return trouble[0] != 0 ? trouble[0] : bestCost;
    }

    public int basketLeft(int house, int shop, int group) {
        house(house);
        shop(shop);
        group(group);
        int[] trouble = new int[1];
        int[] units = basket(house, shop, trouble);
        if (trouble[0] != 0) {
            return trouble[0];
        }
        int left = coupons(house, group);
        for (int good = 0; good < goodCount(); good++) {
            left -= good(good).group == group ? units[good] * good(good).rate : 0;
        }
        return left;
    }

    public int waitFor(int house, int good, int units) {
        house(house);
        good(good);
        if (out(units, 1, 9999)) {
            return BAD_VALUE;
        }
        Office later = office.copy();
        for (int periods = 0; periods <= 50; periods++) {
            if (later.houses.get(house).coupons.get(good(good).group).size() >= units * good(good).rate) {
                return periods;
            }
            later.end();
        }
        return NOT_FOUND;
    }

    public int bestShop(int good) {
        good(good);
        int best = NOT_FOUND;
        for (int shop = shopCount() - 1; shop >= 0; shop--) {
            if (!isSuspended(shop) && stockOf(shop, good) >= 1
                && (best < 0 || stockOf(shop, good) >= stockOf(best, good))) {
                best = shop;
            }
        }
        return best;
    }

    public int bestHouse(int shop, int good) {
        shop(shop);
        good(good);
        int best = NOT_FOUND;
        for (int house = houseCount() - 1; house >= 0; house--) {
            int units = mostUnits(house, shop, good);
            if (units >= 1 && (best < 0 || units >= mostUnits(best, shop, good))) {
                best = house;
            }
        }
        return best;
    }

    public int swapChain(int group) {
        Set<Integer> reached = new HashSet<>();
        for (int next = group(group).substitute; next >= 0 && reached.add(next);) {
            next = group(next).substitute;
        }
        reached.remove(group);
        return reached.size();
    }

    public int mostDeliverable(int shop, int good) {
        shop(shop);
        good(good);
        int most = 0;
        while (most < 9999 && deliverAnswer(shop, good, most + 1) >= 0) {
            most++;
        }
        return most;
    }

    public int spreadOf(int group) {
        group(group);
        List<Integer> percents = new ArrayList<>();
        for (int house = 0; house < houseCount(); house++) {
            percents.add(100 * coupons(house, group) / sizeOf(house));
        }
        return percents.isEmpty() ? 0 : Collections.max(percents) - Collections.min(percents);
    }

    public int levelMoves(int group, int each) {
        group(group);
        if (out(each, 0, 999)) {
            return BAD_VALUE;
        }
        int over = 0;
        int under = 0;
        for (int house = 0; house < houseCount(); house++) {
            int more = coupons(house, group) - each * sizeOf(house);
            over += more > 0 ? more : 0;
            under += more < 0 ? -more : 0;
        }
        return over < under ? NOT_FOUND : under;
    }

    public int supplyPeriods(int house, int good, int units) {
        house(house);
        good(good);
        if (out(units, 1, 9999)) {
            return BAD_VALUE;
        }
        Office later = office.copy();
        int periods = 0;
        while (periods < 50) {
            List<Integer> purse = later.houses.get(house).coupons.get(good(good).group);
            int cost = units * good(good).rate;
            if (purse.size() < cost) {
                break;
            }
            purse.subList(0, cost).clear();
            later.end();
            periods++;
        }
        return periods;
    }

    private void keep() {
        changes.add(office.copy());
        if (changes.size() > 10) {
            changes.remove(0);
        }
    }

    public int buy(int house, int shop, int good, int units) {
        if (missing(house, office.houses) || missing(shop, office.shops) || missing(good, office.goods)) {
            return NOT_FOUND;
        }
        int reason = reasonFor(house, shop, good, units);
        if (reason != 0) {
            return reason < 0 ? reason : reason == 3 ? LACKING : IMPOSSIBLE;
        }
        keep();
        Good it = good(good);
        int[] price = price(house, good, units);
        purse(house, it.group).subList(0, price[0]).clear();
        group(it.group).spent += price[0];
        if (price[1] > 0) {
            int substitute = group(it.group).substitute;
            purse(house, substitute).subList(0, price[1]).clear();
            group(substitute).spent += price[1];
        }
        shop(shop).stock[good] -= units;
        shop(shop).sold[good] += units;
        shop(shop).account[it.group] += units * it.rate;
        return coupons(house, it.group);
    }

    private int deliverAnswer(int shop, int good, int units) {
        if (missing(shop, office.shops) || missing(good, office.goods)) {
            return NOT_FOUND;
        }
        if (out(units, 1, 9999)) {
            return BAD_VALUE;
        }
        if (accountOf(shop, good(good).group) < units * good(good).rate) {
            return LACKING;
        }
        return stockOf(shop, good) + units > 99999 ? FULL : stockOf(shop, good) + units;
    }

    public int deliver(int shop, int good, int units) {
        int answer = deliverAnswer(shop, good, units);
        if (answer >= 0) {
            keep();
            shop(shop).account[good(good).group] -= units * good(good).rate;
            shop(shop).delivered[good] += units;
            shop(shop).stock[good] = answer;
        }
        return answer;
    }

    private int tradeAnswer(int from, int to, int group, int count) {
        if (missing(from, office.houses) || missing(to, office.houses) || missing(group, office.groups) || from == to) {
            return NOT_FOUND;
        }
        if (out(count, 1, 999)) {
            return BAD_VALUE;
        }
        if (coupons(from, group) < count) {
            return LACKING;
        }
        boolean tooMuch = givenBy(from) + count > office.settings[0] || takenBy(to) + count > office.settings[1];
        return tooMuch ? IMPOSSIBLE : coupons(from, group) - count;
    }

    public int trade(int from, int to, int group, int count) {
        int answer = tradeAnswer(from, to, group, count);
        if (answer >= 0) {
            keep();
            List<Integer> part = purse(from, group).subList(0, count);
            purse(to, group).addAll(part);
            part.clear();
            Collections.sort(purse(to, group));
            house(from).given += count;
            house(to).taken += count;
        }
        return answer;
    }

    public int audit(int shop, int good, int counted) {
        if (missing(shop, office.shops) || missing(good, office.goods)) {
            return NOT_FOUND;
        }
        if (out(counted, 0, 99999)) {
            return BAD_VALUE;
        }
        keep();
        int more = Math.max(counted, stockOf(shop, good)) - Math.min(counted, stockOf(shop, good));
        shop(shop).penalty += more * good(good).rate;
        shop(shop).stock[good] = counted;
        return penaltyOf(shop);
    }

    public int pardon(int shop) {
        if (missing(shop, office.shops)) {
            return NOT_FOUND;
        }
        keep();
        int before = penaltyOf(shop);
        shop(shop).penalty = 0;
        return before;
    }

    public int nextPeriod() {
        keep();
        return office.end();
    }

    public int setRation(int group, int ration) {
        if (missing(group, office.groups)) {
            return NOT_FOUND;
        }
        if (out(ration, 0, 99)) {
            return BAD_VALUE;
        }
        keep();
        int before = group(group).ration;
        group(group).ration = ration;
        return before;
    }

    public int setSize(int house, int size) {
        if (missing(house, office.houses)) {
            return NOT_FOUND;
        }
        if (out(size, 1, 9)) {
            return BAD_VALUE;
        }
        keep();
        int before = house(house).size;
        house(house).size = size;
        return before;
    }

    public int setSetting(int setting, int value) {
        if (out(setting, 0, 2) || out(value, 0, setting == 2 ? 9999 : 999)) {
            return BAD_VALUE;
        }
        keep();
        int before = office.settings[setting];
        office.settings[setting] = value;
        return before;
    }

    public int undo() {
        if (changes.isEmpty()) {
            return NOT_FOUND;
        }
        office = changes.remove(changes.size() - 1);
        return changes.size();
    }
}
