import java.util.function.IntUnaryOperator;

/** Promises 39 to 55: what can be bought, best baskets, and what groups come to. */
final class ShopSentences {
    private static final int NOT_FOUND = RationOffice.NOT_FOUND;
    private static final int BAD_VALUE = RationOffice.BAD_VALUE;
    private static final int IMPOSSIBLE = RationOffice.IMPOSSIBLE;
    private static final int TOO_LARGE = RationOffice.TOO_LARGE;
    private static final int LACKING = RationOffice.LACKING;
    private final Sentences s;
    private final RationOffice full = Towns.full();
    private final RationOffice few = Texts.office("group a 2 1 50;group b 1 1 0;good g a 1 1;house h 1;house i 1;house j 2;"
        + "shop s g 1;");

    ShopSentences(Sentences sentences) {
        s = sentences;
    }

    void run() {
        reasonFor();
        mostUnits();
        substituted();
        served();
        basketValue();
        basketUnits();
        waitFor();
        bestShop();
        bestHouse();
        basketCost();
        basketLeft();
        swapChain();
        mostDeliverable();
        spreadOf();
        levelMoves();
        lapseAfter();
        supplyPeriods();
    }

    private void houses(IntUnaryOperator ofFull, IntUnaryOperator ofFew) {
        s.index("house of 6", 6, ofFull);
        s.index("house of 3", 3, ofFew);
    }

    private void shops(IntUnaryOperator ofFull, IntUnaryOperator ofFew) {
        s.index("shop of 4", 4, ofFull);
        s.index("shop of 1", 1, ofFew);
    }

    private void goods(IntUnaryOperator ofFull, IntUnaryOperator ofFew) {
        s.index("good of 6", 6, ofFull);
        s.index("good of 1", 1, ofFew);
    }

    private void groups(IntUnaryOperator ofFull, IntUnaryOperator ofFew) {
        s.index("group of 4", 4, ofFull);
        s.index("group of 2", 2, ofFew);
        RationOffice none = new RationOffice();
        s.badIndex("group of none", 0, group -> none.levelMoves(group, 0));
    }

    private void reasonFor() {
        s.section("Promise 39");
        s.says("Tells why a purchase is not possible now.");
        RationOffice x = Towns.used();
        x.setSetting(RationOffice.TOLERANCE, 5);
        for (int house = 0; house < 6; house++) {
            for (int shop = 0; shop < 4; shop++) {
                for (int good = 0; good < 6; good++) {
                    for (int units : new int[] {1, 2, 5, 6, 20, 51, 9999}) {
                        reasonIsTrue(x, house, shop, good, units);
                    }
                }
            }
        }
        s.says("Returns 0 if it is possible; otherwise the lowest reason that applies (see BUYING);");
        RationOffice y = Texts.office("group a 5 1 0;good g a 1 1;house h 1;shop s g 5;shop t g 6;shop u g 7;shop v g 1;");
        s.due("possible", y.reasonFor(0, 0, 0, 5), 0);
        s.due("only too dear", y.reasonFor(0, 1, 0, 6), 3);
        s.due("too many and too dear", y.reasonFor(0, 0, 0, 6), 2);
        s.due("only too many", y.reasonFor(0, 3, 0, 2), 2);
        y.audit(2, 0, 50);
        s.due("only suspended", y.reasonFor(0, 2, 0, 5), 1);
        s.due("suspended and too dear", y.reasonFor(0, 2, 0, 6), 1);
        s.due("suspended, too many and too dear", y.reasonFor(0, 2, 0, 51), 1);
        s.says("1 to 9999");
        s.due("1", y.reasonFor(0, 0, 0, 1), 0);
        s.due("9999", y.reasonFor(0, 0, 0, 9999), 2);
        y.audit(0, 0, 99999);
        y.pardon(0);
        s.due("9999 of 99999", y.reasonFor(0, 0, 0, 9999), 3);
        s.says("BAD_VALUE if units is out of range.");
        s.range("units", 1, 9999, units -> y.reasonFor(0, 0, 0, units));
        s.range("units in a suspended shop", 1, 9999, units -> y.reasonFor(0, 2, 0, units));
        s.says("Throws `IndexOutOfBoundsException` if house, shop or good is not a valid index (checked first)");
        houses(house -> full.reasonFor(house, 0, 0, 1), house -> few.reasonFor(house, 0, 0, 1));
        shops(shop -> full.reasonFor(0, shop, 0, 1), shop -> few.reasonFor(0, shop, 0, 1));
        goods(good -> full.reasonFor(0, 0, good, 1), good -> few.reasonFor(0, 0, good, 1));
        s.badIndex("house, 0 units", 6, house -> full.reasonFor(house, 0, 0, 0));
        s.badIndex("shop, 0 units", 4, shop -> full.reasonFor(0, shop, 0, 0));
        s.badIndex("good, 0 units", 6, good -> full.reasonFor(0, 0, good, 0));
    }

    /** Tries to buy, and takes it back. */
    private void reasonIsTrue(RationOffice x, int house, int shop, int good, int units) {
        int reason = x.reasonFor(house, shop, good, units);
        int answer = x.buy(house, shop, good, units);
        if (answer >= 0) {
            x.undo();
        }
        int due = answer >= 0 ? 0 : answer == LACKING ? 3 : x.isSuspended(shop) ? 1 : 2;
        s.due("house " + house + ", shop " + shop + ", good " + good + ", units " + units, reason, due);
    }

    private void mostUnits() {
        s.section("Promise 40");
        s.says("Returns the greatest number of units of a good that a house can buy in a shop now.");
        RationOffice[] offices = {Towns.full(), Towns.used(), Towns.lives(50), Texts.office("group a 8 1 0;group b 3 1 0;"
            + "swap b a 3;good g b 1 1;good i b 2 1;house h 1;house j 2;shop s g 99 i 99;shop t g 5 i 5;")};
        for (RationOffice x : offices) {
            for (int house = 0; house < x.houseCount(); house++) {
                for (int shop = 0; shop < x.shopCount(); shop++) {
                    for (int good = 0; good < x.goodCount(); good++) {
                        int most = x.mostUnits(house, shop, good);
                        String call = "house " + house + ", shop " + shop + ", good " + good + ": ";
                        s.due(call + "one more", x.reasonFor(house, shop, good, most + 1) != 0, true);
                        s.due(call + "as many", most == 0 || x.reasonFor(house, shop, good, most) == 0, true);
                    }
                }
            }
        }
        s.says("Returns 0 to 9999.");
        RationOffice x = Texts.office("group a 99 4 100;group b 99 4 100;group c 1 1 0;swap a b 1;good g a 1 1;good k c 1 1;"
            + "house h 9;house i 9;shop s g 9999 k 9999;set give 999;set take 999;");
        for (int period = 0; period < 4; period++) {
            x.nextPeriod();
            x.trade(1, 0, 0, 999);
        }
        int rich = x.coupons(0, 0) + x.coupons(0, 1);
        s.due("it is rich", rich > 10000, true);
        s.due("9999 of 9999", x.mostUnits(0, 0, 0), 9999);
        x.audit(0, 0, 9998);
        x.pardon(0);
        s.due("9998 of 9998", x.mostUnits(0, 0, 0), 9998);
        x.audit(0, 0, 99999);
        s.due("suspended", x.mostUnits(0, 0, 0), 0);
        x.pardon(0);
        s.due("9999 of 99999", x.mostUnits(0, 0, 0), 9999);
        s.due("by coupons", x.mostUnits(0, 0, 1), 9);
        x.buy(0, 0, 1, 9);
        s.due("no coupons", x.mostUnits(0, 0, 1), 0);
        s.due("all that can be bought", x.buy(0, 0, 0, 9999) >= 0, true);
        s.due("what is left", x.mostUnits(0, 0, 0), rich - 9999);
        s.says("Throws `IndexOutOfBoundsException` if house, shop or good is not a valid index");
        houses(house -> full.mostUnits(house, 0, 0), house -> few.mostUnits(house, 0, 0));
        shops(shop -> full.mostUnits(0, shop, 0), shop -> few.mostUnits(0, shop, 0));
        goods(good -> full.mostUnits(0, 0, good), good -> few.mostUnits(0, 0, good));
    }

    private void substituted() {
        s.section("Promise 41");
        s.says("Returns how many coupons of the substitute a house would pay for units of a good, regardless of shops.");
        RationOffice x = Texts.office("group a 7 1 0;group b 40 1 0;swap a b 9;good g a 3 1;good k b 1 1;house h 1;shop s;");
        s.due("2 lacking", x.substituted(0, 0, 3), 18);
        x.audit(0, 0, 999);
        s.due("2 lacking, though the shop is suspended", x.substituted(0, 0, 3), 18);
        RationOffice y = Texts.office("group a 7 1 0;group b 40 1 0;swap a b 9;good g a 3 1;house h 1;");
        s.due("2 lacking, without a shop", y.substituted(0, 0, 3), 18);
        s.says("Returns the number of coupons, 0 if it has enough of the group; NOT_FOUND if it cannot pay;");
        s.due("enough", x.substituted(0, 0, 2), 0);
        s.due("all the substitute but 4", x.substituted(0, 0, 3), 18);
        s.due("5 lacking", x.substituted(0, 0, 4), NOT_FOUND);
        s.due("just enough, no substitute", x.substituted(0, 1, 40), 0);
        s.due("one lacking, no substitute", x.substituted(0, 1, 41), NOT_FOUND);
        RationOffice z = Texts.office("group a 0 1 0;group b 9 1 0;group c 99 1 0;swap a b 3;swap b c 1;good g a 1 1;house h 1;");
        s.due("all lacking, all of the substitute", z.substituted(0, 0, 3), 9);
        s.due("a substitute is not replaced", z.substituted(0, 0, 4), NOT_FOUND);
        s.says("1 to 9999");
        s.due("1", x.substituted(0, 0, 1), 0);
        s.due("9999", x.substituted(0, 0, 9999), NOT_FOUND);
        s.says("BAD_VALUE if units is out of range.");
        s.range("units", 1, 9999, units -> x.substituted(0, 0, units));
        s.says("Throws `IndexOutOfBoundsException` if house or good is not a valid index (checked first)");
        houses(house -> full.substituted(house, 0, 1), house -> few.substituted(house, 0, 1));
        goods(good -> full.substituted(0, good, 1), good -> few.substituted(0, good, 1));
        s.badIndex("house, 0 units", 6, house -> full.substituted(house, 0, 0));
        s.badIndex("good, 10000 units", 6, good -> full.substituted(0, good, 10000));
    }

    private void served() {
        s.section("Promise 42");
        s.says("Returns how many houses could each buy a number of units of a good in a shop, one after the other, if those who "
            + "cannot pay are left out.");
        RationOffice x = Texts.office("group a 3 1 0;group b 2 1 0;swap a b 2;good g a 1 1;house h 1;house i 3;house j 1;"
            + "house k 2;house l 9;shop s g 24;");
        int[][] cases = {{1, 5}, {4, 5}, {5, 3}, {6, 3}, {8, 3}, {9, 2}, {12, 2}, {13, 1}, {24, 1}, {25, 0}};
        for (int[] one : cases) {
            s.due(one[0] + " units", x.served(0, 0, one[0]), one[1]);
        }
        x.audit(0, 0, 23);
        s.due("2 times 12 of 23", x.served(0, 0, 12), 1);
        x.audit(0, 0, 0);
        x.pardon(0);
        s.due("no stock", x.served(0, 0, 1), 0);
        x.audit(0, 0, 99999);
        x.pardon(0);
        s.due("36 for the last one only", x.served(0, 0, 36), 1);
        s.due("none can pay", x.served(0, 0, 37), 0);
        s.due("no houses", Texts.office("group a 1 1 0;good g a 1 1;shop s g 9;").served(0, 0, 1), 0);
        s.says("1 to 9999");
        s.due("1", x.served(0, 0, 1), 5);
        s.due("9999", x.served(0, 0, 9999), 0);
        s.says("Returns the number of houses, 0 if the shop is suspended; BAD_VALUE if units is out of range.");
        x.audit(0, 0, 99988);
        s.due("suspended", x.served(0, 0, 1), 0);
        s.range("units in a suspended shop", 1, 9999, units -> x.served(0, 0, units));
        x.setSetting(RationOffice.TOLERANCE, 11);
        s.due("not suspended", x.served(0, 0, 1), 5);
        s.range("units", 1, 9999, units -> x.served(0, 0, units));
        s.says("Throws `IndexOutOfBoundsException` if shop or good is not a valid index (checked first)");
        shops(shop -> full.served(shop, 0, 1), shop -> few.served(shop, 0, 1));
        goods(good -> full.served(0, good, 1), good -> few.served(0, good, 1));
        s.badIndex("shop, 0 units", 4, shop -> full.served(shop, 0, 0));
        s.badIndex("good, 10000 units", 6, good -> full.served(0, good, 10000));
    }

    /** House 0 holds 400 of a and 1 of b, which has a substitute; c has no goods. */
    private static RationOffice wealthy() {
        return Texts.office("group a 80 4 100;group b 1 1 0;group c 1 1 0;swap b a 1;good g a 3 2;good i a 1 0;good k b 2 50;"
            + "good l b 5 60;house h 5;house j 9;shop s g 9999 i 9999 k 3 l 1;shop t g 5 k 1;");
    }

    private void basketValue() {
        s.section("Promise 43");
        s.says("Returns the value of the best basket: the units of goods with the greatest sum of units times value that a "
            + "house can buy in a shop together, with coupons of their own groups only (without substitutes) and at most the "
            + "stock of each good.");
        RationOffice x = wealthy();
        s.due("133 for 2, and 2 or 1 for 5", x.basketValue(0, 0), 133 * 2 + 2 * 50);
        s.due("at most the stock", x.basketValue(0, 1), 5 * 2 + 50);
        x.setSize(0, 1);
        x.setSetting(RationOffice.TOLERANCE, 9999);
        x.audit(0, 2, 0);
        s.due("one for 5", x.basketValue(0, 0), 133 * 2 + 60);
        x.audit(0, 3, 0);
        s.due("none", x.basketValue(0, 0), 133 * 2);
        x.audit(0, 0, 1);
        x.pardon(0);
        s.due("one", x.basketValue(0, 0), 2);
        x.audit(0, 0, 0);
        s.due("nothing has a value", x.basketValue(0, 0), 0);
        RationOffice y = Texts.office("group a 1 1 0;group b 99 1 0;swap a b 1;good g a 2 9;house h 1;shop s g 99;");
        s.due("no substitutes", y.basketValue(0, 0), 0);
        s.due("though it could buy with them", y.mostUnits(0, 0, 0), 50);
        s.due("no coupons", Texts.office("group a 0 1 0;good g a 1 9;house h 1;shop s g 9;").basketValue(0, 0), 0);
        s.due("no goods", Texts.office("house h 1;shop s;").basketValue(0, 0), 0);
        s.says("Returns the sum; IMPOSSIBLE if the shop is suspended; TOO_LARGE if the house holds more than 400 coupons of a "
            + "group; checked in this order.");
        basketRefusals((office, shop) -> office.basketValue(0, shop), 133 * 2 + 2 * 50);
        mostBaskets();
        s.says("Throws `IndexOutOfBoundsException` if house or shop is not a valid index (checked first)");
        houses(house -> full.basketValue(house, 0), house -> few.basketValue(house, 0));
        shops(shop -> full.basketValue(0, shop), shop -> few.basketValue(0, shop));
        afterRefusal(office -> s.badIndex("house", 2, house -> office.basketValue(house, 0)));
        afterRefusal(office -> s.badIndex("shop", 2, shop -> office.basketValue(0, shop)));
    }

    private interface BasketCall {
        int ask(RationOffice office, int shop);
    }

    private interface Look {
        void at(RationOffice office);
    }

    private void basketRefusals(BasketCall call, int due) {
        RationOffice x = wealthy();
        s.due("400 coupons", call.ask(x, 0), due);
        x.trade(1, 0, 0, 1);
        s.due("401 coupons", call.ask(x, 0), TOO_LARGE);
        s.due("401 coupons, the other shop", call.ask(x, 1), TOO_LARGE);
        x.audit(0, 0, 0);
        s.due("401 coupons in a suspended shop", call.ask(x, 0), IMPOSSIBLE);
        s.due("401 coupons, the other shop", call.ask(x, 1), TOO_LARGE);
        x.undo();
        x.undo();
        s.due("400 coupons again", call.ask(x, 0), due);
        x.audit(0, 0, 0);
        s.due("400 coupons in a suspended shop", call.ask(x, 0), IMPOSSIBLE);
        x.pardon(0);
        s.due("pardoned", call.ask(x, 0) >= 0, true);
        RationOffice y = Texts.office("group a 5 1 0;group b 1 1 0;group c 80 2 0;good g a 1 1;house h 5;shop s g 9;");
        s.due("400 of a group without goods", call.ask(y, 0) >= 0, true);
        y.setRation(2, 1);
        y.nextPeriod();
        s.due("405 of a group without goods", call.ask(y, 0), TOO_LARGE);
    }

    private void afterRefusal(Look look) {
        RationOffice x = wealthy();
        x.nextPeriod();
        look.at(x);
        x.audit(0, 0, 0);
        look.at(x);
    }

    /** As many coupons and goods as a search may have. */
    private void mostBaskets() {
        RationOffice x = Texts.office("group a 80 1 0;group b 80 1 0;group c 80 1 0;group d 80 1 0;good e a 1 99;good f b 1 99;"
            + "good g c 1 99;good h d 1 99;good i a 20 99;good j a 1 98;house k 5;shop s e 9999 f 399 g 400 h 401 i 9999 j 9;");
        s.due("value", x.basketValue(0, 0), 1599 * 99);
        s.due("cost", x.basketCost(0, 0), 1599);
        s.due("the second good", x.basketUnits(0, 0, 1), 399);
        s.due("left of its group", x.basketLeft(0, 0, 1), 1);
        Texts.load(x, "group a 9 1 0;good e a 2 3;good f a 3 4;house k 1;shop s e 2 f 9;");
        s.due("value of a later text", x.basketValue(0, 0), 3 * 4);
        s.due("cost of a later text", x.basketCost(0, 0), 9);
        Texts.load(x, "group a 9 1 0;house k 1;shop s;");
        s.due("value without goods", x.basketValue(0, 0), 0);
    }

    private void basketUnits() {
        s.section("Promise 44");
        s.says("Of several, the one that costs the fewest coupons altogether is taken; ties are broken by more units of the good "
            + "with index 0, then of the good with index 1, and so on.");
        RationOffice x = Texts.office("group a 12 1 0;good g a 6 6;good h a 4 6;good i a 5 0;house j 1;shop s g 2 h 2 i 9;");
        units(x, 0, 0, 2, 0);
        s.due("8 coupons, not 10 or 12", x.basketCost(0, 0), 8);
        x = Texts.office("group a 12 1 0;good g a 3 3;good h a 2 2;good i a 1 1;house j 1;shop s g 3 h 9 i 9;shop t g 3 h 1 i 9;"
            + "shop u i 9;shop v h 9 i 9;");
        units(x, 0, 3, 1, 1);
        units(x, 1, 3, 1, 1);
        units(x, 2, 0, 0, 9);
        units(x, 3, 0, 6, 0);
        x = Texts.office("group b 3 1 0;group a 4 1 0;good g a 2 5;good h b 3 7;good i a 4 10;house j 1;shop s g 9 h 9 i 9;");
        units(x, 0, 2, 1, 0);
        x = Texts.office("group a 9 1 0;good g a 1 0;good h a 1 0;good i a 9 0;house j 1;shop s g 9 h 9 i 9;");
        units(x, 0, 0, 0, 0);
        x = Texts.office("group a 7 1 0;good g a 5 10;good h a 4 9;good i a 3 1;house j 1;shop s g 1 h 1 i 1;");
        units(x, 0, 1, 0, 0);
        x = Texts.office("group a 7 1 0;good g a 7 10;good h a 4 9;good i a 3 1;house j 1;shop s g 1 h 1 i 1;");
        units(x, 0, 1, 0, 0);
        x = Texts.office("group a 7 1 0;good g a 7 10;good h a 3 9;good i a 3 1;house j 1;shop s g 1 h 1 i 1;");
        units(x, 0, 0, 1, 1);
        s.says("Returns the number of units; IMPOSSIBLE and TOO_LARGE as for basketValue.");
        basketRefusals((office, shop) -> office.basketUnits(0, shop, 0), 133);
        s.says("Throws `IndexOutOfBoundsException` if house, shop or good is not a valid index (checked first)");
        houses(house -> full.basketUnits(house, 0, 0), house -> few.basketUnits(house, 0, 0));
        shops(shop -> full.basketUnits(0, shop, 0), shop -> few.basketUnits(0, shop, 0));
        goods(good -> full.basketUnits(0, 0, good), good -> few.basketUnits(0, 0, good));
        afterRefusal(office -> s.badIndex("house", 2, house -> office.basketUnits(house, 0, 0)));
        afterRefusal(office -> s.badIndex("shop", 2, shop -> office.basketUnits(0, shop, 0)));
        afterRefusal(office -> s.badIndex("good", 4, good -> office.basketUnits(0, 0, good)));
    }

    private void units(RationOffice x, int shop, int first, int second, int third) {
        int[] due = {first, second, third};
        for (int good = 0; good < 3; good++) {
            s.due("units of good " + good + " in shop " + shop, x.basketUnits(0, shop, good), due[good]);
        }
    }

    private void waitFor() {
        s.section("Promise 45");
        s.says("Returns the period, counted from the present one, in which a house could first pay for units of a good with "
            + "coupons of its group alone if nothing else changed.");
        RationOffice x = Towns.used();
        for (int house = 0; house < 6; house++) {
            for (int good = 0; good < 6; good++) {
                for (int units = 1; units <= 100; units++) {
                    s.due("units " + units, x.waitFor(house, good, units), firstPayable(x, house, good, units));
                }
            }
        }
        s.same("nothing has changed", Tell.all(x), Tell.all(Towns.used()));
        s.says("1 to 9999");
        s.due("1", x.waitFor(5, 0, 1), 0);
        s.due("9999", x.waitFor(5, 0, 9999), NOT_FOUND);
        s.says("Returns 0 for the present period, up to 50; NOT_FOUND if in none of these;");
        RationOffice y = Towns.lives(100);
        int[] most = {10, 20, 30, 40, 50};
        for (int periods = 0; periods < 5; periods++) {
            s.due("as many as there will be", y.waitFor(0, 3, most[periods]), periods);
            s.due("one more", y.waitFor(0, 3, most[periods] + 1), periods == 4 ? NOT_FOUND : periods + 1);
        }
        y.buy(0, 0, 3, 10);
        s.due("50 from 0 on", y.waitFor(0, 3, 50), 5);
        s.due("1 from 0 on", y.waitFor(0, 3, 1), 1);
        y.setRation(3, 0);
        s.due("never more than none", y.waitFor(0, 3, 1), NOT_FOUND);
        s.due("now or never", y.waitFor(1, 3, 70), 0);
        s.due("never", y.waitFor(1, 3, 71), NOT_FOUND);
        s.due("without the substitute", full.waitFor(0, 0, 9), NOT_FOUND);
        s.says("BAD_VALUE if units is out of range.");
        s.range("units", 1, 9999, units -> x.waitFor(0, 0, units));
        s.says("Throws `IndexOutOfBoundsException` if house or good is not a valid index (checked first)");
        houses(house -> full.waitFor(house, 0, 1), house -> few.waitFor(house, 0, 1));
        goods(good -> full.waitFor(0, good, 1), good -> few.waitFor(0, good, 1));
        s.badIndex("house, 0 units", 6, house -> full.waitFor(house, 0, 0));
        s.badIndex("good, 10000 units", 6, good -> full.waitFor(0, good, 10000));
    }

    private static int firstPayable(RationOffice x, int house, int good, int units) {
        for (int periods = 0; periods <= 50; periods++) {
            if (x.couponsAfter(house, x.goodProperty(good, 0), periods) >= units * x.goodProperty(good, 1)) {
                return periods;
            }
        }
        return NOT_FOUND;
    }

    private void bestShop() {
        s.section("Promise 46");
        s.says("Returns the shop with the largest stock of a good that is not suspended.");
        RationOffice x = Texts.office("group a 1 1 0;good g a 1 1;shop s g 3;shop t g 9;shop u g 10;shop v g 8;"
            + "set tolerance 0;");
        s.due("10", x.bestShop(0), 2);
        x.audit(2, 0, 11);
        s.due("9", x.bestShop(0), 1);
        x.audit(1, 0, 12);
        s.due("8", x.bestShop(0), 3);
        x.audit(3, 0, 0);
        s.due("3", x.bestShop(0), 0);
        x.pardon(2);
        s.due("11", x.bestShop(0), 2);
        x.setSetting(RationOffice.TOLERANCE, 9999);
        s.due("12", x.bestShop(0), 1);
        s.says("Ties are broken by lower index.");
        x.audit(2, 0, 12);
        s.due("12 and 12", x.bestShop(0), 1);
        x.audit(0, 0, 12);
        s.due("12, 12 and 12", x.bestShop(0), 0);
        s.due("50 and 50", full.bestShop(0), 0);
        s.says("NOT_FOUND if there is none with at least one unit.");
        RationOffice y = Texts.office("group a 1 1 0;good g a 1 1;shop s;shop t;set tolerance 1;");
        s.due("none", y.bestShop(0), NOT_FOUND);
        y.audit(1, 0, 1);
        s.due("one unit", y.bestShop(0), 1);
        y.setSetting(RationOffice.TOLERANCE, 0);
        s.due("one unit, suspended", y.bestShop(0), NOT_FOUND);
        s.due("no shops", Texts.office("group a 1 1 0;good g a 1 1;").bestShop(0), NOT_FOUND);
        s.says("Throws `IndexOutOfBoundsException` if good is not a valid index");
        goods(good -> full.bestShop(good), good -> few.bestShop(good));
    }

    private void bestHouse() {
        s.section("Promise 47");
        s.says("Returns the house that can buy the most units of a good in a shop now (see mostUnits).");
        s.due("nine persons", full.bestHouse(0, 0), 5);
        RationOffice x = Texts.office("group a 10 1 0;group b 4 1 0;swap a b 3;good g a 1 1;good i b 1 1;good k a 6 1;house h 1;"
            + "house j 1;house l 1;shop s g 99 i 99 k 99;shop t g 10;");
        x.buy(0, 0, 0, 1);
        x.buy(1, 0, 1, 2);
        s.due("9 and 1, 10, 10 and 1", x.bestHouse(0, 0), 2);
        s.says("Ties are broken by lower index.");
        s.due("10 of the stock, all", x.bestHouse(1, 0), 0);
        s.due("4, 2, 4", x.bestHouse(0, 1), 0);
        s.due("1 of 6 coupons, all", x.bestHouse(0, 2), 0);
        s.says("NOT_FOUND if no house can buy one unit.");
        s.due("no stock", x.bestHouse(1, 1), NOT_FOUND);
        x.audit(1, 1, 1);
        s.due("one unit in stock", x.bestHouse(1, 1), 0);
        x.audit(1, 1, 99);
        s.due("suspended", x.bestHouse(1, 1), NOT_FOUND);
        RationOffice y = Texts.office("group a 1 1 0;good g a 2 1;house h 1;house i 1;shop s g 9;");
        s.due("1 of 2 coupons, both", y.bestHouse(0, 0), NOT_FOUND);
        y.trade(0, 1, 0, 1);
        s.due("2 of 2 coupons, the second", y.bestHouse(0, 0), 1);
        s.due("no houses", Texts.office("group a 1 1 0;good g a 1 1;shop s g 9;").bestHouse(0, 0), NOT_FOUND);
        s.says("Throws `IndexOutOfBoundsException` if shop or good is not a valid index");
        shops(shop -> full.bestHouse(shop, 0), shop -> few.bestHouse(shop, 0));
        goods(good -> full.bestHouse(0, good), good -> few.bestHouse(0, good));
    }

    private void basketCost() {
        s.section("Promise 48");
        s.says("Returns the number of coupons; IMPOSSIBLE and TOO_LARGE as for basketValue.");
        basketRefusals((office, shop) -> office.basketCost(0, shop), 133 * 3 + 2 * 2);
        s.due("nothing", full.basketCost(0, 3), 0);
        s.says("Throws `IndexOutOfBoundsException` if house or shop is not a valid index (checked first)");
        houses(house -> full.basketCost(house, 0), house -> few.basketCost(house, 0));
        shops(shop -> full.basketCost(0, shop), shop -> few.basketCost(0, shop));
        afterRefusal(office -> s.badIndex("house", 2, house -> office.basketCost(house, 0)));
        afterRefusal(office -> s.badIndex("shop", 2, shop -> office.basketCost(0, shop)));
    }

    private void basketLeft() {
        s.section("Promise 49");
        s.says("Returns how many coupons of a group a house would hold if it bought the best basket (see basketUnits).");
        RationOffice x = Towns.used();
        for (int house = 0; house < 6; house++) {
            for (int shop = 0; shop < 4; shop++) {
                leftIsLeft(x, house, shop);
            }
        }
        s.says("Returns the number of coupons; IMPOSSIBLE and TOO_LARGE as for basketValue.");
        basketRefusals((office, shop) -> office.basketLeft(0, shop, 0), 1);
        s.says("Throws `IndexOutOfBoundsException` if house, shop or group is not a valid index (checked first)");
        houses(house -> full.basketLeft(house, 0, 0), house -> few.basketLeft(house, 0, 0));
        shops(shop -> full.basketLeft(0, shop, 0), shop -> few.basketLeft(0, shop, 0));
        groups(group -> full.basketLeft(0, 0, group), group -> few.basketLeft(0, 0, group));
        afterRefusal(office -> s.badIndex("house", 2, house -> office.basketLeft(house, 0, 0)));
        afterRefusal(office -> s.badIndex("shop", 2, shop -> office.basketLeft(0, shop, 0)));
        afterRefusal(office -> s.badIndex("group", 3, group -> office.basketLeft(0, 0, group)));
    }

    /** Buys the basket, good by good, and takes it back. */
    private void leftIsLeft(RationOffice x, int house, int shop) {
        int[] left = new int[4];
        int[] units = new int[6];
        int sum = 0;
        for (int group = 0; group < 4; group++) {
            left[group] = x.basketLeft(house, shop, group);
        }
        if (left[0] < 0) {
            s.due("suspended", x.isSuspended(shop), true);
            return;
        }
        for (int good = 0; good < 6; good++) {
            units[good] = x.basketUnits(house, shop, good);
            sum += units[good] * x.goodProperty(good, 2);
        }
        s.due("value", x.basketValue(house, shop), sum);
        int changes = 0;
        for (int good = 0; good < 6; good++) {
            if (units[good] > 0) {
                s.due("buy good " + good, x.buy(house, shop, good, units[good]) >= 0, true);
                changes++;
            }
        }
        for (int group = 0; group < 4; group++) {
            s.due("left of group " + group, x.coupons(house, group), left[group]);
        }
        for (int change = 0; change < changes; change++) {
            x.undo();
        }
    }

    private void swapChain() {
        s.section("Promise 50");
        s.says("Returns the number of different groups that are reached from a group by going on to the substitute again and "
            + "again, the group itself not counted.");
        chain("", 0, 0, 0, 0);
        chain("swap a b 1;", 1, 0, 0, 0);
        chain("swap a b 1;swap b a 1;", 1, 1, 0, 0);
        chain("swap a b 1;swap b c 1;swap c b 1;", 2, 1, 1, 0);
        chain("swap a c 1;swap c a 1;swap b a 1;swap d b 1;", 1, 2, 1, 3);
        chain("swap a b 1;swap c b 1;swap d b 1;", 1, 0, 1, 1);
        s.says("Returns 0 to 3.");
        chain("swap a b 1;swap b c 1;swap c d 1;", 3, 2, 1, 0);
        chain("swap a b 1;swap b c 1;swap c d 1;swap d a 1;", 3, 3, 3, 3);
        chain("swap a b 1;swap b c 1;swap c d 1;swap d c 1;", 3, 2, 1, 1);
        chain("swap d c 1;swap c b 1;swap b a 1;", 0, 1, 2, 3);
        s.says("Throws `IndexOutOfBoundsException` if group is not a valid index");
        groups(group -> full.swapChain(group), group -> few.swapChain(group));
    }

    private void chain(String swaps, int a, int b, int c, int d) {
        RationOffice x = Texts.office("group a 1 1 1;group b 1 1 1;group c 1 1 1;group d 1 1 1;" + swaps);
        int[] due = {a, b, c, d};
        for (int group = 0; group < 4; group++) {
            s.due("swapChain of " + group + " with " + swaps, x.swapChain(group), due[group]);
        }
    }

    private void mostDeliverable() {
        s.section("Promise 51");
        s.says("Returns the greatest number of units of a good that can be delivered to a shop by one call of deliver now.");
        RationOffice x = Towns.used();
        for (int shop = 0; shop < 4; shop++) {
            for (int good = 0; good < 6; good++) {
                deliverableIsGreatest(x, shop, good);
                x.audit(shop, good, 99999);
                deliverableIsGreatest(x, shop, good);
                x.audit(shop, good, 99998);
                deliverableIsGreatest(x, shop, good);
            }
        }
        s.says("Returns 0 to 9999.");
        RationOffice y = Texts.office("group a 99 4 100;group b 99 4 100;swap a b 1;good g a 1 1;good i a 3 1;house h 9;"
            + "house j 9;shop s g 9999;shop t;set give 999;set take 999;");
        for (int period = 0; period < 4; period++) {
            y.nextPeriod();
            y.trade(1, 0, 0, 999);
        }
        s.due("no account", y.mostDeliverable(0, 0), 0);
        y.buy(0, 0, 0, 9998);
        s.due("9998", y.mostDeliverable(0, 0), 9998);
        s.due("rate 3", y.mostDeliverable(0, 1), 3332);
        y.buy(0, 0, 0, 1);
        s.due("9999", y.mostDeliverable(0, 0), 9999);
        y.audit(0, 0, 99999);
        s.due("no room", y.mostDeliverable(0, 0), 0);
        y.audit(0, 0, 90000);
        s.due("room for 9999", y.mostDeliverable(0, 0), 9999);
        y.audit(0, 0, 90001);
        s.due("room for 9998", y.mostDeliverable(0, 0), 9998);
        y.audit(0, 0, 10);
        y.pardon(0);
        y.buy(1, 0, 0, 10);
        s.due("an account of 10009", y.mostDeliverable(0, 0), 9999);
        s.due("rate 3", y.mostDeliverable(0, 1), 3336);
        s.due("another shop", y.mostDeliverable(1, 0), 0);
        s.says("Throws `IndexOutOfBoundsException` if shop or good is not a valid index");
        shops(shop -> full.mostDeliverable(shop, 0), shop -> few.mostDeliverable(shop, 0));
        goods(good -> full.mostDeliverable(0, good), good -> few.mostDeliverable(0, good));
    }

    private void deliverableIsGreatest(RationOffice x, int shop, int good) {
        int most = x.mostDeliverable(shop, good);
        s.due("one more to " + shop + " of " + good, x.deliver(shop, good, most + 1) < 0, true);
        if (most > 0) {
            s.due("as many to " + shop + " of " + good, x.deliver(shop, good, most) >= 0, true);
            x.undo();
        }
    }

    private void spreadOf() {
        s.section("Promise 52");
        s.says("Returns how far houses are apart in a group: for each house, 100 times its coupons of the group divided by its "
            + "size, rounded down; the greatest of these numbers minus the least one.");
        RationOffice x = Texts.office("group a 10 1 0;good g a 1 1;house h 3;house i 7;house j 1;shop s g 999;");
        s.due("1000, 1000, 1000", x.spreadOf(0), 0);
        x.buy(0, 0, 0, 1);
        s.due("966, 1000, 1000", x.spreadOf(0), 34);
        x.buy(1, 0, 0, 3);
        s.due("966, 957, 1000", x.spreadOf(0), 43);
        x.buy(2, 0, 0, 1);
        s.due("966, 957, 900", x.spreadOf(0), 66);
        x.buy(1, 0, 0, 67);
        s.due("966, 0, 900", x.spreadOf(0), 966);
        x.buy(0, 0, 0, 29);
        x.buy(2, 0, 0, 9);
        s.due("0, 0, 0", x.spreadOf(0), 0);
        x.setSize(1, 9);
        x.setRation(0, 99);
        x.nextPeriod();
        x.setSize(1, 1);
        s.due("9900, 89100, 9900", x.spreadOf(0), 79200);
        s.says("Returns the difference; 0 if there are no houses.");
        s.due("no houses", Texts.office("group a 1 1 1;").spreadOf(0), 0);
        s.due("one house", Texts.office("group a 7 1 1;house h 9;").spreadOf(0), 0);
        s.says("Throws `IndexOutOfBoundsException` if group is not a valid index");
        groups(group -> full.spreadOf(group), group -> few.spreadOf(group));
    }

    private void levelMoves() {
        s.section("Promise 53");
        s.says("Returns the fewest coupons of a group that must go from houses to other ones so that each house holds at least "
            + "a number for each of its persons, regardless of the limits of TRADING.");
        RationOffice x = Texts.office("group a 10 1 0;good g a 1 1;house h 1;house i 2;house j 3;shop s g 99;set give 0;"
            + "set take 0;");
        s.due("10 each of 10, 20, 30", x.levelMoves(0, 10), 0);
        x.buy(0, 0, 0, 10);
        s.due("8 each of 0, 20, 30", x.levelMoves(0, 8), 8);
        x.buy(1, 0, 0, 20);
        s.due("5 each of 0, 0, 30", x.levelMoves(0, 5), 15);
        s.due("1 each of 0, 0, 30", x.levelMoves(0, 1), 3);
        s.says("0 to 999, the number for each person");
        s.due("0", x.levelMoves(0, 0), 0);
        s.due("999", x.levelMoves(0, 999), NOT_FOUND);
        s.says("NOT_FOUND if all houses together hold too few;");
        s.due("30 of 30", x.levelMoves(0, 5), 15);
        s.due("36 of 30", x.levelMoves(0, 6), NOT_FOUND);
        x.buy(2, 0, 0, 1);
        s.due("30 of 29", x.levelMoves(0, 5), NOT_FOUND);
        s.due("24 of 29", x.levelMoves(0, 4), 12);
        s.due("no houses", Texts.office("group a 1 1 0;").levelMoves(0, 999), 0);
        s.due("one house", Texts.office("group a 1 1 0;house h 9;").levelMoves(0, 1), 0);
        s.due("one house, too few", Texts.office("group a 1 1 0;house h 9;").levelMoves(0, 2), NOT_FOUND);
        s.says("BAD_VALUE if each is out of range.");
        s.range("each", 0, 999, each -> x.levelMoves(0, each));
        s.says("Throws `IndexOutOfBoundsException` if group is not a valid index (checked first)");
        groups(group -> full.levelMoves(group, 5), group -> few.levelMoves(group, 0));
        s.badIndex("group, bad each", 4, group -> full.levelMoves(group, 1000));
        s.badIndex("group, bad each", 2, group -> few.levelMoves(group, -1));
    }

    private void lapseAfter() {
        s.section("Promise 54");
        s.says("Returns how many coupons of a group would lapse in a house during the next periods if nothing else changed (see "
            + "couponsAfter).");
        RationOffice x = Towns.used();
        RationOffice twin = Towns.used();
        int[] sums = new int[24];
        for (int periods = 0; periods <= 50; periods++) {
            for (int index = 0; index < 24; index++) {
                int house = index / 4;
                int group = index % 4;
                s.due("lapseAfter " + periods, x.lapseAfter(house, group, periods), sums[index]);
                sums[index] += twin.lapsing(house, group);
            }
            twin.nextPeriod();
        }
        s.same("nothing has changed", Tell.all(x), Tell.all(Towns.used()));
        s.says("0 to 50; so many calls of nextPeriod");
        s.due("0", x.lapseAfter(5, 0, 0), 0);
        s.due("1", x.lapseAfter(5, 0, 1), x.lapsing(5, 0));
        s.due("50", Texts.office("group a 99 1 0;house h 9;").lapseAfter(0, 0, 50), 50 * 891);
        s.says("Returns the number of coupons, of all these periods together; BAD_VALUE if periods is out of range.");
        s.due("2", Texts.office("group a 9 1 50;house h 1;").lapseAfter(0, 0, 2), 5 + 9);
        s.range("periods", 0, 50, periods -> x.lapseAfter(0, 0, periods));
        s.says("Throws `IndexOutOfBoundsException` if house or group is not a valid index (checked first)");
        houses(house -> full.lapseAfter(house, 0, 50), house -> few.lapseAfter(house, 0, 0));
        groups(group -> full.lapseAfter(0, group, 50), group -> few.lapseAfter(0, group, 0));
        s.badIndex("house, bad periods", 6, house -> full.lapseAfter(house, 0, 51));
        s.badIndex("group, bad periods", 4, group -> full.lapseAfter(0, group, -1));
    }

    private void supplyPeriods() {
        s.section("Promise 55");
        s.says("Returns in how many periods in a row, from the present one on, a house could buy a number of units of a good "
            + "once in each of them, with coupons of its group alone and regardless of shops, if nothing else changed.");
        for (int good = 0; good < 4; good++) {
            for (int units = 1; units <= 60; units++) {
                s.due("good " + good + ", units " + units, hoard().supplyPeriods(0, good, units), bought(good, units));
            }
        }
        RationOffice x = hoard();
        x.supplyPeriods(0, 3, 10);
        s.same("nothing has changed", Tell.all(x), Tell.all(hoard()));
        s.due("without the substitute", full.supplyPeriods(0, 0, 6), 0);
        s.due("without shops", Texts.office("group a 1 1 0;good g a 1 1;house h 1;").supplyPeriods(0, 0, 1), 50);
        s.says("1 to 9999");
        s.due("1", x.supplyPeriods(0, 0, 1), 50);
        s.due("9999", x.supplyPeriods(0, 0, 9999), 0);
        s.says("Returns 0 to 50 (more periods are not counted);");
        s.due("48", lasting(48), 48);
        s.due("49", lasting(49), 49);
        s.due("50", lasting(50), 50);
        s.due("51", lasting(51), 50);
        s.due("99", lasting(99), 50);
        s.says("BAD_VALUE if units is out of range.");
        s.range("units", 1, 9999, units -> x.supplyPeriods(0, 0, units));
        s.says("Throws `IndexOutOfBoundsException` if house or good is not a valid index (checked first)");
        houses(house -> full.supplyPeriods(house, 0, 1), house -> few.supplyPeriods(house, 0, 1));
        goods(good -> full.supplyPeriods(0, good, 1), good -> few.supplyPeriods(0, good, 1));
        s.badIndex("house, 0 units", 6, house -> full.supplyPeriods(house, 0, 0));
        s.badIndex("good, 10000 units", 6, good -> full.supplyPeriods(0, good, 10000));
    }

    /** Coupons of all ages, and a full shop. */
    private static RationOffice hoard() {
        RationOffice x = Towns.lives(50);
        Towns.nextPeriods(x, 5);
        for (int good = 0; good < 4; good++) {
            x.audit(0, good, 99999);
        }
        x.pardon(0);
        return x;
    }

    private static int bought(int good, int units) {
        RationOffice twin = hoard();
        int periods = 0;
        while (periods < 50 && twin.buy(0, 0, good, units) >= 0) {
            twin.nextPeriod();
            periods++;
        }
        return periods;
    }

    /** Four issues of some coupons, of which 3 more than an issue are spent in each period, last for as many periods. */
    private static int lasting(int periods) {
        RationOffice x = Texts.office("group a " + periods + " 4 0;good g a 1 1;house h 1;");
        Towns.nextPeriods(x, 3);
        return x.supplyPeriods(0, 0, periods + 3);
    }
}
