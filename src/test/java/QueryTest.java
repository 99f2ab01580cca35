/** Promises 19 to 55: what an office tells of coupons, shops and baskets. */
public final class QueryTest {
    private static final Check check = new Check();
    private static final int NOT_FOUND = RationOffice.NOT_FOUND;
    private static final int BAD_VALUE = RationOffice.BAD_VALUE;
    private static final int FOOD = 0, FUEL = 1, CLOTH = 2;
    private static final int BREAD = 0, COAL = 1, COAT = 2;
    private static final int NORTH = 0, SOUTH = 1, WEST = 2;

    public static void main(String[] args) {
        coupons();
        ahead();
        neediest();
        trading();
        helpers();
        shops();
        groups();
        reasons();
        mostUnits();
        substituted();
        served();
        baskets();
        basketTies();
        basketLimits();
        waitFor();
        bestShop();
        bestHouse();
        swapChain();
        mostDeliverable();
        spreadOf();
        levelMoves();
        supplyPeriods();
        indexes();
        check.finish();
    }

    /** Issued: north 20, 8, 6; south 10, 4, 3; west 30, 12, 9 of food, fuel, cloth. */
    private static RationOffice town() {
        return Texts.office("group food 10 2 50;group fuel 4 1 0;group cloth 3 4 100;swap fuel food 3;"
            + "good bread food 2 5;good coal fuel 1 7;good coat cloth 5 40;house north 2;house south 1;house west 3;"
            + "shop a bread 50 coal 20;shop b coat 9 bread 50;set give 8;set take 10;set tolerance 15;");
    }

    private static void coupons() {
        check.begin("19, 20 coupons");
        RationOffice x = town();
        check.due("food of west", x.coupons(WEST, FOOD), 30);
        int[] places = {0, 0, 30, 0, 0};
        for (int left = 0; left < 5; left++) {
            check.due("food with " + left, x.couponsWith(WEST, FOOD, left), places[left]);
        }
        check.due("cloth with 4", x.couponsWith(WEST, CLOTH, 4), 9);
        check.due("food with 5", x.couponsWith(WEST, FOOD, 5), BAD_VALUE);
        check.due("food with -1", x.couponsWith(WEST, FOOD, -1), BAD_VALUE);
        x.nextPeriod();
        check.due("food with 1", x.couponsWith(WEST, FOOD, 1), 30);
        check.due("food with 2", x.couponsWith(WEST, FOOD, 2), 30);
        x.nextPeriod();
        check.due("food carried", x.couponsWith(WEST, FOOD, 0), 15);
        check.due("food with carried ones", x.coupons(WEST, FOOD), 75);
        check.due("fuel is never carried", x.coupons(WEST, FUEL), 12);
        x.nextPeriod();
        x.nextPeriod();
        check.due("cloth carried whole", x.couponsWith(SOUTH, CLOTH, 0), 3);
        check.due("cloth", x.coupons(SOUTH, CLOTH), 15);
    }

    private static void ahead() {
        check.begin("21, 22, 54 ahead");
        RationOffice x = town();
        check.due("lapsing food", x.lapsing(SOUTH, FOOD), 0);
        check.due("lapsing fuel", x.lapsing(SOUTH, FUEL), 4);
        int[] held = {10, 20, 25, 25};
        int[] lapsed = {0, 0, 5, 15};
        for (int periods = 0; periods < 4; periods++) {
            check.due("couponsAfter " + periods, x.couponsAfter(SOUTH, FOOD, periods), held[periods]);
            check.due("lapseAfter " + periods, x.lapseAfter(SOUTH, FOOD, periods), lapsed[periods]);
        }
        check.due("couponsAfter 50", x.couponsAfter(SOUTH, FOOD, 50), 25);
        check.due("lapseAfter 50", x.lapseAfter(SOUTH, FOOD, 50), 485);
        check.due("couponsAfter 51", x.couponsAfter(SOUTH, FOOD, 51), BAD_VALUE);
        check.due("couponsAfter -1", x.couponsAfter(SOUTH, FOOD, -1), BAD_VALUE);
        check.due("lapseAfter 51", x.lapseAfter(SOUTH, FOOD, 51), BAD_VALUE);
        check.due("lapseAfter -1", x.lapseAfter(SOUTH, FOOD, -1), BAD_VALUE);
        check.due("nothing changes", x.coupons(SOUTH, FOOD) + x.period() + x.undoCount(), 10);
        x.nextPeriod();
        check.due("lapsing, half of those with 1 left", x.lapsing(SOUTH, FOOD), 5);
        x.buy(SOUTH, 0, BREAD, 1);
        x.setRation(FOOD, 7);
        check.due("lapsing, 8 with 1 left", x.lapsing(SOUTH, FOOD), 4);
        check.due("couponsAfter with the new ration", x.couponsAfter(SOUTH, FOOD, 1), 4 + 10 + 7);
        x.setSize(SOUTH, 3);
        check.due("couponsAfter with the new size", x.couponsAfter(SOUTH, FOOD, 1), 4 + 10 + 21);
        x.nextPeriod();
        check.due("lapsing, carried ones too", x.lapsing(SOUTH, FOOD), 4 + 5);
        RationOffice y = Texts.office("group a 3 1 50;house h 1;");
        check.due("half of 3 is rounded down", y.lapsing(0, 0), 2);
        check.due("then held", y.couponsAfter(0, 0, 1), 4);
    }

    private static void neediest() {
        check.begin("23 neediest");
        RationOffice x = town();
        check.due("all the same", x.neediest(FOOD), NORTH);
        x.buy(WEST, 0, BREAD, 1);
        check.due("west", x.neediest(FOOD), WEST);
        x.buy(NORTH, 0, BREAD, 1);
        check.due("north has 18/2, west 28/3", x.neediest(FOOD), NORTH);
        x.setSize(SOUTH, 2);
        check.due("south has 10/2", x.neediest(FOOD), SOUTH);
        check.due("no houses", Texts.office("group a 1 1 1;").neediest(0), NOT_FOUND);
        RationOffice y = Texts.office("group a 4 1 1;good g a 1 1;house h 3;house i 5;house j 1;shop s g 9;");
        y.buy(0, 0, 0, 1);
        y.buy(1, 0, 0, 2);
        check.due("18/5 before 11/3", y.neediest(0), 1);
    }

    private static void trading() {
        check.begin("24 to 26 trading");
        RationOffice x = town();
        check.due("room: GIVE", x.tradeRoom(WEST, NORTH, FOOD), 8);
        check.due("room: coupons", x.tradeRoom(SOUTH, NORTH, FUEL), 4);
        check.due("room: the same", x.tradeRoom(WEST, WEST, FOOD), 0);
        x.trade(WEST, SOUTH, FOOD, 5);
        x.trade(WEST, NORTH, CLOTH, 1);
        check.due("given by west", x.givenBy(WEST), 6);
        check.due("taken by south", x.takenBy(SOUTH), 5);
        check.due("taken by north", x.takenBy(NORTH), 1);
        check.due("given by south", x.givenBy(SOUTH), 0);
        check.due("taken by west", x.takenBy(WEST), 0);
        check.due("room: what is left of GIVE", x.tradeRoom(WEST, NORTH, FOOD), 2);
        check.due("room: what is left of TAKE", x.tradeRoom(NORTH, SOUTH, FOOD), 5);
        x.setSetting(RationOffice.GIVE, 3);
        check.due("room: more given than GIVE", x.tradeRoom(WEST, NORTH, FOOD), 0);
        x.setSetting(RationOffice.TAKE, 3);
        check.due("room: more taken than TAKE", x.tradeRoom(NORTH, SOUTH, FOOD), 0);
        x.nextPeriod();
        check.due("given in the next period", x.givenBy(WEST), 0);
        check.due("taken in the next period", x.takenBy(SOUTH), 0);
        check.due("room in the next period", x.tradeRoom(WEST, SOUTH, FOOD), 3);
    }

    private static void helpers() {
        check.begin("27 helpers");
        RationOffice x = Texts.office("group a 10 1 0;group b 1 1 0;good g a 1 1;house h 1;house i 1;house j 1;house k 1;"
            + "shop s g 99;set give 7;set take 20;");
        x.buy(1, 0, 0, 5);
        check.due("holds as many", x.helpers(0, 0, 10), 0);
        check.due("holds more", x.helpers(0, 0, 0), 0);
        check.due("one gives", x.helpers(0, 0, 17), 1);
        check.due("two give 14", x.helpers(0, 0, 24), 2);
        check.due("three give 19", x.helpers(0, 0, 29), 3);
        check.due("three have not 20", x.helpers(0, 0, 30), NOT_FOUND);
        x.setSetting(RationOffice.TAKE, 14);
        check.due("TAKE is reached", x.helpers(0, 0, 24), 2);
        check.due("TAKE would be exceeded", x.helpers(0, 0, 25), NOT_FOUND);
        x.trade(3, 0, 1, 1);
        check.due("TAKE of all groups", x.helpers(0, 0, 24), NOT_FOUND);
        check.due("GIVE of all groups", x.helpers(0, 0, 23), 2);
        x.trade(2, 1, 1, 1);
        check.due("GIVE of two houses: 6, 6 and 5", x.helpers(0, 0, 23), 3);
        check.due("9999", x.helpers(0, 0, 9999), NOT_FOUND);
        check.due("10000", x.helpers(0, 0, 10000), BAD_VALUE);
        check.due("-1", x.helpers(0, 0, -1), BAD_VALUE);
        RationOffice y = Texts.office("group a 10 1 0;house h 1;");
        check.due("nobody else", y.helpers(0, 0, 11), NOT_FOUND);
        y = Texts.office("group a 10 1 0;house h 1;house i 1;set give 0;");
        check.due("nobody may give", y.helpers(0, 0, 11), NOT_FOUND);
    }

    private static void shops() {
        check.begin("28 to 34 shops");
        RationOffice x = town();
        check.due("stock", x.stockOf(0, BREAD), 50);
        check.due("stock that is not listed", x.stockOf(0, COAT), 0);
        check.due("stock of b", x.stockOf(1, COAT), 9);
        check.due("account", x.accountOf(0, FOOD), 0);
        check.due("penalty", x.penaltyOf(0), 0);
        x.buy(WEST, 0, BREAD, 3);
        x.buy(WEST, 0, COAL, 2);
        x.buy(WEST, 1, BREAD, 4);
        x.deliver(0, BREAD, 2);
        check.due("sold by a", x.soldBy(0, BREAD), 3);
        check.due("sold by b", x.soldBy(1, BREAD), 4);
        check.due("delivered to a", x.deliveredTo(0, BREAD), 2);
        check.due("delivered to b", x.deliveredTo(1, BREAD), 0);
        check.due("turnover of a", x.turnover(0), 8);
        check.due("turnover of b", x.turnover(1), 8);
        check.due("account of a", x.accountOf(0, FOOD), 2);
        check.due("account of a for fuel", x.accountOf(0, FUEL), 2);
        check.due("account of b", x.accountOf(1, FOOD), 8);
        check.due("stock of a", x.stockOf(0, BREAD), 49);
        x.audit(0, COAL, 3);
        check.due("penalty", x.penaltyOf(0), 15);
        check.due("as much as TOLERANCE", x.isSuspended(0), false);
        x.setSetting(RationOffice.TOLERANCE, 14);
        check.due("more than TOLERANCE", x.isSuspended(0), true);
        check.due("the other shop", x.isSuspended(1), false);
    }

    private static void groups() {
        check.begin("35 to 38 groups");
        RationOffice x = town();
        check.due("issued", x.issued(FOOD), 60);
        check.due("held", x.held(CLOTH), 18);
        x.buy(WEST, 0, COAL, 14);
        check.due("spent fuel", x.spent(FUEL), 12);
        check.due("spent food, which replaced 2 of fuel", x.spent(FOOD), 6);
        check.due("held fuel", x.held(FUEL), 12);
        check.due("nothing lapsed", x.lapsed(FUEL), 0);
        x.nextPeriod();
        check.due("issued", x.issued(FOOD), 120);
        check.due("lapsed fuel", x.lapsed(FUEL), 12);
        check.due("lapsed food", x.lapsed(FOOD), 0);
        check.due("held food", x.held(FOOD), 114);
        x.nextPeriod();
        check.due("lapsed food", x.lapsed(FOOD), 27);
        check.due("held food", x.held(FOOD), 147);
    }

    private static void reasons() {
        check.begin("39 reasonFor");
        RationOffice x = town();
        check.due("possible", x.reasonFor(NORTH, 0, BREAD, 10), 0);
        check.due("too dear", x.reasonFor(NORTH, 0, BREAD, 11), 3);
        check.due("too dear, too many", x.reasonFor(NORTH, 0, BREAD, 51), 2);
        check.due("all the stock", x.reasonFor(WEST, 0, COAL, 20), 0);
        check.due("more than the stock", x.reasonFor(WEST, 0, COAL, 21), 2);
        check.due("no stock", x.reasonFor(WEST, 1, COAL, 1), 2);
        check.due("with the substitute", x.reasonFor(NORTH, 0, COAL, 14), 0);
        check.due("not with the substitute", x.reasonFor(NORTH, 0, COAL, 15), 3);
        check.due("0 units", x.reasonFor(NORTH, 0, BREAD, 0), BAD_VALUE);
        check.due("10000 units", x.reasonFor(NORTH, 0, BREAD, 10000), BAD_VALUE);
        check.due("9999 units", x.reasonFor(NORTH, 0, BREAD, 9999), 2);
        x.audit(0, BREAD, 0);
        check.due("suspended", x.reasonFor(NORTH, 0, COAL, 1), 1);
        check.due("suspended, no stock, too dear", x.reasonFor(NORTH, 0, BREAD, 9999), 1);
        check.due("suspended, 0 units", x.reasonFor(NORTH, 0, BREAD, 0), BAD_VALUE);
    }

    private static void mostUnits() {
        check.begin("40 mostUnits");
        RationOffice x = town();
        check.due("by coupons", x.mostUnits(WEST, 0, BREAD), 15);
        check.due("with the substitute", x.mostUnits(NORTH, 0, COAL), 14);
        check.due("by stock", x.mostUnits(WEST, 0, COAL), 20);
        check.due("none in stock", x.mostUnits(WEST, 0, COAT), 0);
        check.due("rounded down", x.mostUnits(WEST, 1, COAT), 1);
        check.due("too few coupons", x.mostUnits(SOUTH, 1, COAT), 0);
        x.audit(1, COAT, 0);
        check.due("suspended", x.mostUnits(WEST, 1, BREAD), 0);
        RationOffice y = Texts.office("group a 99 4 100;group b 3 1 0;swap b a 1;good g b 1 1;house h 9;shop s g 9999;");
        for (int period = 0; period < 4; period++) {
            y.nextPeriod();
        }
        check.due("4455 of the substitute", y.mostUnits(0, 0, 0), 4455 + 27);
        RationOffice z = Texts.office("group a 99 4 100;group b 99 4 100;swap b a 1;good g b 1 1;house h 9;house i 9;"
            + "shop s g 9999;set give 999;set take 999;");
        for (int period = 0; period < 4; period++) {
            z.nextPeriod();
            z.trade(1, 0, 0, 999);
        }
        z.audit(0, 0, 99999);
        z.pardon(0);
        check.due("up to 9999", z.mostUnits(0, 0, 0), 9999);
        check.due("buy as many", z.buy(0, 0, 0, 9999) >= 0, true);
    }

    private static void substituted() {
        check.begin("41 substituted");
        RationOffice x = town();
        check.due("enough of the group", x.substituted(NORTH, COAL, 8), 0);
        check.due("one lacking", x.substituted(NORTH, COAL, 9), 3);
        check.due("six lacking", x.substituted(NORTH, COAL, 14), 18);
        check.due("seven lacking", x.substituted(NORTH, COAL, 15), NOT_FOUND);
        check.due("no substitute, enough", x.substituted(NORTH, BREAD, 10), 0);
        check.due("no substitute, too few", x.substituted(NORTH, BREAD, 11), NOT_FOUND);
        check.due("0 units", x.substituted(NORTH, COAL, 0), BAD_VALUE);
        check.due("10000 units", x.substituted(NORTH, COAL, 10000), BAD_VALUE);
        check.due("9999 units", x.substituted(NORTH, COAL, 9999), NOT_FOUND);
        RationOffice y = Texts.office("group a 1 1 0;group b 1 1 0;group c 50 1 0;swap a b 1;swap b c 1;good g a 1 1;"
            + "house h 1;shop s g 9;");
        check.due("one step", y.substituted(0, 0, 2), 1);
        check.due("no second step", y.substituted(0, 0, 3), NOT_FOUND);
        check.due("no second step to buy", y.buy(0, 0, 0, 3), RationOffice.LACKING);
    }

    private static void served() {
        check.begin("42 served");
        RationOffice x = town();
        check.due("all", x.served(0, COAL, 5), 3);
        check.due("by stock", x.served(0, COAL, 7), 2);
        check.due("by coupons", x.served(0, BREAD, 6), 2);
        check.due("by coupons", x.served(0, BREAD, 15), 1);
        check.due("none", x.served(0, BREAD, 16), 0);
        check.due("no stock", x.served(0, COAT, 1), 0);
        check.due("0 units", x.served(0, COAL, 0), BAD_VALUE);
        check.due("10000 units", x.served(0, COAL, 10000), BAD_VALUE);
        x.audit(0, BREAD, 0);
        check.due("suspended", x.served(0, COAL, 1), 0);
    }

    private static void baskets() {
        check.begin("43, 44, 48, 49 baskets");
        RationOffice x = town();
        check.due("value", x.basketValue(NORTH, 0), 10 * 5 + 8 * 7);
        check.due("bread", x.basketUnits(NORTH, 0, BREAD), 10);
        check.due("coal, without substitutes", x.basketUnits(NORTH, 0, COAL), 8);
        check.due("coat", x.basketUnits(NORTH, 0, COAT), 0);
        check.due("cost", x.basketCost(NORTH, 0), 28);
        check.due("food left", x.basketLeft(NORTH, 0, FOOD), 0);
        check.due("cloth left", x.basketLeft(NORTH, 0, CLOTH), 6);
        check.due("value in b", x.basketValue(NORTH, 1), 10 * 5 + 40);
        check.due("cloth left by b", x.basketLeft(NORTH, 1, CLOTH), 1);
        check.due("cost in b", x.basketCost(NORTH, 1), 25);
        check.due("nothing changes", x.coupons(NORTH, FOOD), 20);
        x.audit(0, BREAD, 43);
        check.due("value with less stock", x.basketValue(WEST, 0), 15 * 5 + 12 * 7);
        x.pardon(0);
        x.audit(0, BREAD, 46);
        x.pardon(0);
        x.audit(0, COAL, 5);
        check.due("value with still less stock", x.basketValue(WEST, 0), 15 * 5 + 5 * 7);
        check.due("coal", x.basketUnits(WEST, 0, COAL), 5);
        check.due("fuel left", x.basketLeft(WEST, 0, FUEL), 7);
        RationOffice y = Texts.office("group a 10 1 0;good g a 6 13;good h a 5 10;house i 1;shop s g 9 h 9;");
        check.due("two of the second before one of the first", y.basketValue(0, 0), 20);
        check.due("first", y.basketUnits(0, 0, 0), 0);
        check.due("second", y.basketUnits(0, 0, 1), 2);
        y = Texts.office("group a 99 1 0;good g a 7 20;good h a 5 13;good i a 3 8;house j 1;shop s g 5 h 6 i 11;");
        check.due("three goods", y.basketValue(0, 0), 5 * 20 + 6 * 13 + 11 * 8);
        check.due("their cost", y.basketCost(0, 0), 98);
    }

    private static void basketTies() {
        check.begin("44 baskets of the same value");
        RationOffice x = Texts.office("group a 12 1 0;good g a 4 8;good h a 3 8;good i a 5 0;house j 1;shop s g 9 h 2 i 9;");
        check.due("value", x.basketValue(0, 0), 24);
        check.due("one of the first", x.basketUnits(0, 0, 0), 1);
        check.due("two of the second", x.basketUnits(0, 0, 1), 2);
        check.due("cost", x.basketCost(0, 0), 10);
        check.due("nothing without value", x.basketUnits(0, 0, 2), 0);
        x = Texts.office("group a 6 1 0;good g a 3 3;good h a 2 2;good i a 1 1;house j 1;shop s g 9 h 9 i 9;");
        check.due("more of the first", x.basketUnits(0, 0, 0), 2);
        check.due("none of the last", x.basketUnits(0, 0, 2), 0);
        x = Texts.office("group a 6 1 0;good g a 3 3;good h a 2 2;good i a 1 1;house j 1;shop s g 1 h 9 i 9;");
        check.due("one of the first", x.basketUnits(0, 0, 0), 1);
        check.due("then one of the second", x.basketUnits(0, 0, 1), 1);
        check.due("then one of the last", x.basketUnits(0, 0, 2), 1);
        x = Texts.office("group a 9 1 0;good g a 1 0;house j 1;shop s g 9;");
        check.due("value 0", x.basketValue(0, 0), 0);
        check.due("cost 0", x.basketCost(0, 0), 0);
        check.due("units 0", x.basketUnits(0, 0, 0), 0);
        check.due("left", x.basketLeft(0, 0, 0), 9);
    }

    private static void basketLimits() {
        check.begin("43, 44, 48, 49 limits of baskets");
        RationOffice x = Texts.office("group a 80 1 0;group b 50 2 0;good g a 3 1;house h 5;house i 1;shop s g 9999;");
        check.due("400 coupons", x.basketValue(0, 0), 133);
        check.due("units", x.basketUnits(0, 0, 0), 133);
        check.due("left", x.basketLeft(0, 0, 0), 1);
        x.trade(1, 0, 0, 1);
        basketAnswers(x, RationOffice.TOO_LARGE);
        check.due("the other house", x.basketValue(1, 0), 26);
        x.undo();
        x.nextPeriod();
        basketAnswers(x, RationOffice.TOO_LARGE);
        x.audit(0, 0, 0);
        basketAnswers(x, RationOffice.IMPOSSIBLE);
        RationOffice y = Texts.office("house h 1;shop s;");
        check.due("no goods", y.basketValue(0, 0), 0);
        check.due("no goods, cost", y.basketCost(0, 0), 0);
    }

    private static void basketAnswers(RationOffice x, int due) {
        check.due("basketValue", x.basketValue(0, 0), due);
        check.due("basketUnits", x.basketUnits(0, 0, 0), due);
        check.due("basketCost", x.basketCost(0, 0), due);
        check.due("basketLeft", x.basketLeft(0, 0, 0), due);
    }

    private static void waitFor() {
        check.begin("45 waitFor");
        RationOffice x = town();
        check.due("now", x.waitFor(SOUTH, BREAD, 5), 0);
        check.due("in 1", x.waitFor(SOUTH, BREAD, 6), 1);
        check.due("in 2", x.waitFor(SOUTH, BREAD, 12), 2);
        check.due("never", x.waitFor(SOUTH, BREAD, 13), NOT_FOUND);
        check.due("without the substitute", x.waitFor(SOUTH, COAL, 5), NOT_FOUND);
        check.due("0 units", x.waitFor(SOUTH, BREAD, 0), BAD_VALUE);
        check.due("10000 units", x.waitFor(SOUTH, BREAD, 10000), BAD_VALUE);
        check.due("9999 units", x.waitFor(SOUTH, BREAD, 9999), NOT_FOUND);
        check.due("nothing changes", x.period(), 0);
    }

    private static void bestShop() {
        check.begin("46 bestShop");
        RationOffice x = town();
        check.due("a tie", x.bestShop(BREAD), 0);
        check.due("coat", x.bestShop(COAT), 1);
        x.buy(NORTH, 0, BREAD, 1);
        check.due("less in the first", x.bestShop(BREAD), 1);
        x.audit(1, COAT, 0);
        check.due("the larger one suspended", x.bestShop(BREAD), 0);
        check.due("no stock", x.bestShop(COAT), NOT_FOUND);
        x.audit(0, COAL, 0);
        check.due("all suspended", x.bestShop(BREAD), NOT_FOUND);
        check.due("no shops", Texts.office("group a 1 1 1;good g a 1 1;").bestShop(0), NOT_FOUND);
    }

    private static void bestHouse() {
        check.begin("47 bestHouse");
        RationOffice x = town();
        check.due("west", x.bestHouse(0, BREAD), WEST);
        check.due("a tie of none", x.bestHouse(0, COAT), NOT_FOUND);
        x.audit(0, COAL, 5);
        check.due("a tie of stock", x.bestHouse(0, COAL), NORTH);
        x.audit(0, COAL, 10);
        check.due("suspended", x.bestHouse(0, BREAD), NOT_FOUND);
        check.due("no houses", Texts.office("group a 1 1 1;good g a 1 1;shop s g 5;").bestHouse(0, 0), NOT_FOUND);
    }

    private static void swapChain() {
        check.begin("50 swapChain");
        String groups = "group a 1 1 1;group b 1 1 1;group c 1 1 1;group d 1 1 1;";
        chain(groups, 0, 0, 0, 0);
        chain(groups + "swap a b 1;swap b c 1;swap c d 1;", 3, 2, 1, 0);
        chain(groups + "swap a b 1;swap b a 1;", 1, 1, 0, 0);
        chain(groups + "swap a b 1;swap b c 1;swap c b 1;", 2, 1, 1, 0);
        chain(groups + "swap a b 1;swap b c 1;swap c d 1;swap d a 1;", 3, 3, 3, 3);
        chain(groups + "swap d b 1;swap b c 1;swap c b 1;swap a d 1;", 3, 1, 1, 2);
    }

    private static void chain(String text, int a, int b, int c, int d) {
        RationOffice x = Texts.office(text);
        int[] due = {a, b, c, d};
        for (int group = 0; group < 4; group++) {
            check.due(text + " " + group, x.swapChain(group), due[group]);
        }
    }

    private static void mostDeliverable() {
        check.begin("51 mostDeliverable");
        RationOffice x = town();
        check.due("no account", x.mostDeliverable(0, BREAD), 0);
        x.buy(WEST, 0, BREAD, 3);
        x.buy(WEST, 1, COAT, 1);
        check.due("by account", x.mostDeliverable(0, BREAD), 3);
        check.due("another account", x.mostDeliverable(1, BREAD), 0);
        check.due("another good of the group", x.mostDeliverable(1, COAT), 1);
        x.audit(0, BREAD, 99997);
        check.due("by room, though suspended", x.mostDeliverable(0, BREAD), 2);
        x.audit(0, BREAD, 99999);
        check.due("no room", x.mostDeliverable(0, BREAD), 0);
    }

    private static void spreadOf() {
        check.begin("52 spreadOf");
        RationOffice x = town();
        check.due("all the same", x.spreadOf(FOOD), 0);
        x.buy(WEST, 0, BREAD, 1);
        check.due("1000 and 933", x.spreadOf(FOOD), 67);
        x.buy(SOUTH, 0, BREAD, 5);
        check.due("1000 and 0", x.spreadOf(FOOD), 1000);
        check.due("no houses", Texts.office("group a 1 1 1;").spreadOf(0), 0);
        check.due("one house", Texts.office("group a 9 1 1;house h 4;").spreadOf(0), 0);
        RationOffice y = Texts.office("group a 4 1 1;good g a 1 1;house h 3;house i 6;shop s g 9;");
        y.buy(0, 0, 0, 2);
        y.buy(1, 0, 0, 5);
        check.due("333 and 316", y.spreadOf(0), 17);
    }

    private static void levelMoves() {
        check.begin("53 levelMoves");
        RationOffice x = town();
        check.due("level", x.levelMoves(FOOD, 10), 0);
        check.due("too few", x.levelMoves(FOOD, 11), NOT_FOUND);
        x.trade(SOUTH, WEST, FOOD, 8);
        check.due("south lacks 8", x.levelMoves(FOOD, 10), 8);
        x.buy(NORTH, 0, BREAD, 4);
        check.due("52 for 6 persons", x.levelMoves(FOOD, 9), NOT_FOUND);
        check.due("south lacks 6, north 4", x.levelMoves(FOOD, 8), 10);
        check.due("0 each", x.levelMoves(FOOD, 0), 0);
        check.due("999 each", x.levelMoves(FOOD, 999), NOT_FOUND);
        check.due("1000 each", x.levelMoves(FOOD, 1000), BAD_VALUE);
        check.due("-1 each", x.levelMoves(FOOD, -1), BAD_VALUE);
        check.due("no houses", Texts.office("group a 1 1 1;").levelMoves(0, 999), 0);
    }

    private static void supplyPeriods() {
        check.begin("55 supplyPeriods");
        RationOffice x = town();
        check.due("as many as issued", x.supplyPeriods(SOUTH, BREAD, 5), 50);
        check.due("more than issued", x.supplyPeriods(SOUTH, BREAD, 6), 0);
        check.due("without the substitute", x.supplyPeriods(SOUTH, COAL, 5), 0);
        check.due("0 units", x.supplyPeriods(SOUTH, BREAD, 0), BAD_VALUE);
        check.due("10000 units", x.supplyPeriods(SOUTH, BREAD, 10000), BAD_VALUE);
        x.nextPeriod();
        check.due("20, 18, 16, 14, 12 and so on", x.supplyPeriods(SOUTH, BREAD, 6), 5);
        check.due("nothing changes", x.coupons(SOUTH, FOOD), 20);
        x.setRation(FOOD, 0);
        check.due("two kept for later", x.supplyPeriods(SOUTH, BREAD, 5), 2);
        check.due("nothing issued", x.supplyPeriods(SOUTH, BREAD, 10), 1);
    }

    private static void indexes() {
        check.begin("19 to 55 indexes");
        RationOffice x = town();
        for (int bad : new int[] {-1, 3, 6, Integer.MAX_VALUE, Integer.MIN_VALUE}) {
            ofHouses(x, bad);
            ofGroups(x, bad);
            ofGoods(x, bad);
        }
        for (int bad : new int[] {-1, 2, 4, Integer.MAX_VALUE, Integer.MIN_VALUE}) {
            ofShops(x, bad);
        }
    }

    private static void ofHouses(RationOffice x, int bad) {
        check.outOfBounds("coupons", () -> x.coupons(bad, 0));
        check.outOfBounds("couponsWith", () -> x.couponsWith(bad, 0, 9));
        check.outOfBounds("lapsing", () -> x.lapsing(bad, 0));
        check.outOfBounds("couponsAfter", () -> x.couponsAfter(bad, 0, 99));
        check.outOfBounds("givenBy", () -> x.givenBy(bad));
        check.outOfBounds("takenBy", () -> x.takenBy(bad));
        check.outOfBounds("tradeRoom", () -> x.tradeRoom(bad, 0, 0));
        check.outOfBounds("tradeRoom", () -> x.tradeRoom(0, bad, 0));
        check.outOfBounds("tradeRoom, the same", () -> x.tradeRoom(bad, bad, 0));
        check.outOfBounds("helpers", () -> x.helpers(bad, 0, -1));
        check.outOfBounds("reasonFor", () -> x.reasonFor(bad, 0, 0, 0));
        check.outOfBounds("mostUnits", () -> x.mostUnits(bad, 0, 0));
        check.outOfBounds("substituted", () -> x.substituted(bad, 0, 0));
        check.outOfBounds("basketValue", () -> x.basketValue(bad, 0));
        check.outOfBounds("basketUnits", () -> x.basketUnits(bad, 0, 0));
        check.outOfBounds("basketCost", () -> x.basketCost(bad, 0));
        check.outOfBounds("basketLeft", () -> x.basketLeft(bad, 0, 0));
        check.outOfBounds("waitFor", () -> x.waitFor(bad, 0, 0));
        check.outOfBounds("lapseAfter", () -> x.lapseAfter(bad, 0, 99));
        check.outOfBounds("supplyPeriods", () -> x.supplyPeriods(bad, 0, 0));
    }

    private static void ofGroups(RationOffice x, int bad) {
        check.outOfBounds("coupons", () -> x.coupons(0, bad));
        check.outOfBounds("couponsWith", () -> x.couponsWith(0, bad, 9));
        check.outOfBounds("lapsing", () -> x.lapsing(0, bad));
        check.outOfBounds("couponsAfter", () -> x.couponsAfter(0, bad, 99));
        check.outOfBounds("neediest", () -> x.neediest(bad));
        check.outOfBounds("tradeRoom", () -> x.tradeRoom(0, 1, bad));
        check.outOfBounds("tradeRoom, the same", () -> x.tradeRoom(0, 0, bad));
        check.outOfBounds("helpers", () -> x.helpers(0, bad, -1));
        check.outOfBounds("accountOf", () -> x.accountOf(0, bad));
        check.outOfBounds("issued", () -> x.issued(bad));
        check.outOfBounds("spent", () -> x.spent(bad));
        check.outOfBounds("lapsed", () -> x.lapsed(bad));
        check.outOfBounds("held", () -> x.held(bad));
        check.outOfBounds("basketLeft", () -> x.basketLeft(0, 0, bad));
        check.outOfBounds("swapChain", () -> x.swapChain(bad));
        check.outOfBounds("spreadOf", () -> x.spreadOf(bad));
        check.outOfBounds("levelMoves", () -> x.levelMoves(bad, -1));
        check.outOfBounds("lapseAfter", () -> x.lapseAfter(0, bad, 99));
    }

    private static void ofGoods(RationOffice x, int bad) {
        check.outOfBounds("stockOf", () -> x.stockOf(0, bad));
        check.outOfBounds("soldBy", () -> x.soldBy(0, bad));
        check.outOfBounds("deliveredTo", () -> x.deliveredTo(0, bad));
        check.outOfBounds("reasonFor", () -> x.reasonFor(0, 0, bad, 0));
        check.outOfBounds("mostUnits", () -> x.mostUnits(0, 0, bad));
        check.outOfBounds("substituted", () -> x.substituted(0, bad, 0));
        check.outOfBounds("served", () -> x.served(0, bad, 0));
        check.outOfBounds("basketUnits", () -> x.basketUnits(0, 0, bad));
        check.outOfBounds("waitFor", () -> x.waitFor(0, bad, 0));
        check.outOfBounds("bestShop", () -> x.bestShop(bad));
        check.outOfBounds("bestHouse", () -> x.bestHouse(0, bad));
        check.outOfBounds("mostDeliverable", () -> x.mostDeliverable(0, bad));
        check.outOfBounds("supplyPeriods", () -> x.supplyPeriods(0, bad, 0));
    }

    private static void ofShops(RationOffice x, int bad) {
        check.outOfBounds("stockOf", () -> x.stockOf(bad, 0));
        check.outOfBounds("accountOf", () -> x.accountOf(bad, 0));
        check.outOfBounds("penaltyOf", () -> x.penaltyOf(bad));
        check.outOfBounds("isSuspended", () -> x.isSuspended(bad) ? 1 : 0);
        check.outOfBounds("soldBy", () -> x.soldBy(bad, 0));
        check.outOfBounds("deliveredTo", () -> x.deliveredTo(bad, 0));
        check.outOfBounds("turnover", () -> x.turnover(bad));
        check.outOfBounds("reasonFor", () -> x.reasonFor(0, bad, 0, 0));
        check.outOfBounds("mostUnits", () -> x.mostUnits(0, bad, 0));
        check.outOfBounds("served", () -> x.served(bad, 0, 0));
        check.outOfBounds("basketValue", () -> x.basketValue(0, bad));
        check.outOfBounds("basketUnits", () -> x.basketUnits(0, bad, 0));
        check.outOfBounds("bestHouse", () -> x.bestHouse(bad, 0));
        check.outOfBounds("basketCost", () -> x.basketCost(0, bad));
        check.outOfBounds("basketLeft", () -> x.basketLeft(0, bad, 0));
        check.outOfBounds("mostDeliverable", () -> x.mostDeliverable(bad, 0));
    }
}
