import java.util.Random;

/**
 * Promises 43, 44, 48 and 49 with up to 400 coupons and large stocks, where ModelTest has too many baskets to try. The
 * best basket is found by another way than the class takes: for each number of coupons of all goods so far, the best
 * row of value, saved coupons and units is kept, and rows are compared from their first number on.
 */
public final class LargeBasketTest {
    private static final int RUNS = 400;
    private static final int VALUE = 0, SAVED = 1, UNITS = 2;
    private static final Check check = new Check();

    public static void main(String[] args) {
        for (int seed = 1; seed <= RUNS; seed++) {
            check.begin("run of seed " + seed);
            run(new Random(seed));
        }
        edges();
        check.finish();
    }

    private static void run(Random random) {
        int groups = 1 + random.nextInt(2);
        int goods = 1 + random.nextInt(6);
        StringBuilder text = new StringBuilder();
        for (int group = 0; group < groups; group++) {
            text.append("group ").append((char) ('a' + group)).append(' ').append(random.nextInt(100)).append(" 4 0;");
        }
        boolean alike = random.nextInt(3) == 0;
        for (int good = 0; good < goods; good++) {
            int rate = 1 + random.nextInt(random.nextBoolean() ? 20 : 5);
            int value = alike ? 3 * rate : random.nextInt(random.nextBoolean() ? 100 : 6);
            text.append("good g").append((char) ('a' + good)).append(' ').append((char) ('a' + random.nextInt(groups)));
            text.append(' ').append(rate).append(' ').append(value).append(';');
        }
        text.append("house h ").append(1 + random.nextInt(4)).append(";shop s");
        for (int good = 0; good < goods; good++) {
            int stock = random.nextInt(random.nextBoolean() ? 10000 : 30);
            text.append(" g").append((char) ('a' + good)).append(' ').append(stock);
        }
        compare(Texts.office(text.append(';').toString()), text.toString());
    }

    private static void compare(RationOffice x, String text) {
        long[] total = new long[UNITS + x.goodCount()];
        long[] left = new long[x.groupCount()];
        for (int group = 0; group < x.groupCount(); group++) {
            left[group] = x.coupons(0, group);
            long[] best = bestRow(x, group);
            for (int index = 0; index < total.length; index++) {
                total[index] += best[index];
            }
            left[group] += best[SAVED];
        }
        check.due("basketValue of " + text, x.basketValue(0, 0), total[VALUE]);
        check.due("basketCost of " + text, x.basketCost(0, 0), -total[SAVED]);
        for (int good = 0; good < x.goodCount(); good++) {
            check.due("basketUnits " + good + " of " + text, x.basketUnits(0, 0, good), total[UNITS + good]);
        }
        for (int group = 0; group < left.length; group++) {
            check.due("basketLeft " + group + " of " + text, x.basketLeft(0, 0, group), left[group]);
        }
    }

    private static long[] bestRow(RationOffice x, int group) {
        int held = x.coupons(0, group);
        long[][] rows = new long[held + 1][];
        rows[0] = new long[UNITS + x.goodCount()];
        for (int good = 0; good < x.goodCount(); good++) {
            if (x.goodProperty(good, 0) == group) {
                rows = withGood(x, good, rows);
            }
        }
        long[] best = rows[0];
        for (long[] row : rows) {
            best = better(row, best);
        }
        return best;
    }

    private static long[][] withGood(RationOffice x, int good, long[][] before) {
        int rate = x.goodProperty(good, 1);
        long[][] after = new long[before.length][];
        for (int paid = 0; paid < before.length; paid++) {
            for (int count = 0; before[paid] != null && count <= x.stockOf(0, good) && paid + count * rate < after.length; count++) {
                long[] row = before[paid].clone();
                row[VALUE] += count * x.goodProperty(good, 2);
                row[SAVED] -= count * rate;
                row[UNITS + good] = count;
                after[paid + count * rate] = better(row, after[paid + count * rate]);
            }
        }
        return after;
    }

    private static long[] better(long[] row, long[] other) {
        if (row == null || other == null) {
            return row == null ? other : row;
        }
        for (int index = 0; index < row.length; index++) {
            if (row[index] != other[index]) {
                return row[index] > other[index] ? row : other;
            }
        }
        return other;
    }

    /** 400 coupons are searched, 401 are not; a suspended shop comes before both. */
    private static void edges() {
        check.begin("edges");
        RationOffice x = Texts.office("group a 99 4 0;group b 1 1 0;good g a 1 1;good h a 7 8;house i 4;shop s g 9999 h 9999;");
        compare(x, "396 coupons");
        x = Texts.office("group a 50 4 0;good g a 1 1;house i 8;house j 1;shop s g 9999;");
        compare(x, "400 coupons");
        check.due("basketValue with 400", x.basketValue(0, 0), 400);
        check.due("trade", x.trade(1, 0, 0, 1), 49);
        check.due("basketValue with 401", x.basketValue(0, 0), RationOffice.TOO_LARGE);
        check.due("basketUnits with 401", x.basketUnits(0, 0, 0), RationOffice.TOO_LARGE);
        check.due("basketCost with 401", x.basketCost(0, 0), RationOffice.TOO_LARGE);
        check.due("basketLeft with 401", x.basketLeft(0, 0, 0), RationOffice.TOO_LARGE);
        check.due("audit", x.audit(0, 0, 0), 9999);
        check.due("basketValue with 401 in a suspended shop", x.basketValue(0, 0), RationOffice.IMPOSSIBLE);
    }
}
