/** Puts all that an office tells without searching into one text, for comparing it before and after a call. */
final class Tell {
    private Tell() {
    }

    static String all(RationOffice x) {
        StringBuilder text = new StringBuilder();
        text.append(x.period()).append(' ').append(x.groupCount()).append(' ').append(x.goodCount()).append(' ');
        text.append(x.houseCount()).append(' ').append(x.shopCount());
        for (int setting = 0; setting < 3; setting++) {
            text.append(' ').append(x.getSetting(setting));
        }
        for (int group = 0; group < x.groupCount(); group++) {
            group(text.append("\ngroup"), x, group);
        }
        for (int good = 0; good < x.goodCount(); good++) {
            for (int what = 0; what < 3; what++) {
                text.append(' ').append(x.goodProperty(good, what));
            }
        }
        for (int house = 0; house < x.houseCount(); house++) {
            house(text.append("\nhouse"), x, house);
        }
        for (int shop = 0; shop < x.shopCount(); shop++) {
            shop(text.append("\nshop"), x, shop);
        }
        return text.toString();
    }

    private static void group(StringBuilder text, RationOffice x, int group) {
        for (int what = 0; what < 5; what++) {
            text.append(' ').append(x.groupProperty(group, what));
        }
        text.append(' ').append(x.issued(group)).append(' ').append(x.spent(group));
        text.append(' ').append(x.lapsed(group)).append(' ').append(x.held(group));
    }

    private static void house(StringBuilder text, RationOffice x, int house) {
        text.append(' ').append(x.sizeOf(house)).append(' ').append(x.givenBy(house)).append(' ').append(x.takenBy(house));
        for (int group = 0; group < x.groupCount(); group++) {
            for (int left = 0; left < 5; left++) {
                text.append(' ').append(x.couponsWith(house, group, left));
            }
        }
    }

    private static void shop(StringBuilder text, RationOffice x, int shop) {
        text.append(' ').append(x.penaltyOf(shop));
        for (int group = 0; group < x.groupCount(); group++) {
            text.append(' ').append(x.accountOf(shop, group));
        }
        for (int good = 0; good < x.goodCount(); good++) {
            text.append(' ').append(x.stockOf(shop, good)).append(' ').append(x.soldBy(shop, good));
            text.append(' ').append(x.deliveredTo(shop, good));
        }
    }
}
