import java.util.function.IntBinaryOperator;

/** Promises 19 to 38: what houses hold and trade, what shops have, and the sums of groups. */
final class HouseSentences {
    private static final int NOT_FOUND = RationOffice.NOT_FOUND;
    private static final int BAD_VALUE = RationOffice.BAD_VALUE;
    private final Sentences s;
    private final RationOffice full = Towns.full();
    private final RationOffice few = Texts.office("group a 2 1 50;group b 1 1 0;good g a 1 1;house h 1;house i 1;house j 2;"
        + "shop s g 1;");

    HouseSentences(Sentences sentences) {
        s = sentences;
    }

    void run() {
        coupons();
        couponsWith();
        lapsing();
        couponsAfter();
        neediest();
        givenAndTaken();
        tradeRoom();
        helpers();
        helpersLimits();
        stockOf();
        accountOf();
        penaltyOf();
        isSuspended();
        soldBy();
        deliveredTo();
        turnover();
        issued();
        spent();
        lapsed();
        held();
    }

    /** Both indexes must be tested, in an office that is full and in one that is not. */
    private void houseAndGroup(IntBinaryOperator ofFull, IntBinaryOperator ofFew) {
        s.index("house of 6", 6, house -> ofFull.applyAsInt(house, 3));
        s.index("group of 4", 4, group -> ofFull.applyAsInt(5, group));
        s.index("house of 3", 3, house -> ofFew.applyAsInt(house, 1));
        s.index("group of 2", 2, group -> ofFew.applyAsInt(2, group));
        s.badIndex("both", 6, bad -> ofFull.applyAsInt(bad, bad));
    }

    private void shopAndGood(IntBinaryOperator ofFull, IntBinaryOperator ofFew) {
        s.index("shop of 4", 4, shop -> ofFull.applyAsInt(shop, 5));
        s.index("good of 6", 6, good -> ofFull.applyAsInt(3, good));
        s.index("shop of 1", 1, shop -> ofFew.applyAsInt(shop, 0));
        s.index("good of 1", 1, good -> ofFew.applyAsInt(0, good));
        s.badIndex("both", 6, bad -> ofFull.applyAsInt(bad, bad));
    }

    private void coupons() {
        s.section("Promise 19");
        s.says("Returns the number of coupons, carried ones included.");
        RationOffice x = Towns.lives(100);
        for (int period = 0; period < 7; period++) {
            for (int group = 0; group < 4; group++) {
                s.due("coupons behind " + period, x.coupons(1, group), 70 * Math.min(period + 1, group + 2));
            }
            x.nextPeriod();
        }
        x.buy(1, 0, 0, 140);
        s.due("none", x.coupons(1, 0), 0);
        s.says("Throws `IndexOutOfBoundsException` if house or group is not a valid index");
        houseAndGroup((house, group) -> full.coupons(house, group), (house, group) -> few.coupons(house, group));
    }

    private void couponsWith() {
        s.section("Promise 20");
        s.says("Returns the number of coupons of a group that a house holds with a number of periods left.");
        RationOffice x = Towns.lives(50);
        s.same("at first", Towns.places(x, 0, 3), "0 0 0 0 10");
        s.same("life 1", Towns.places(x, 1, 0), "0 70 0 0 0");
        x.nextPeriod();
        s.same("life 1, then", Towns.places(x, 1, 0), "35 70 0 0 0");
        s.same("life 4, then", Towns.places(x, 1, 3), "0 0 0 70 70");
        s.says("0 for carried coupons, 1 to 4 for fresh ones with so many periods left");
        Towns.nextPeriods(x, 3);
        s.same("life 2", Towns.places(x, 0, 1), "5 10 10 0 0");
        s.same("life 4", Towns.places(x, 1, 3), "35 70 70 70 70");
        s.says("Returns the number of coupons; BAD_VALUE if left is out of range.");
        s.range("left", 0, 4, left -> x.couponsWith(0, 0, left));
        s.due("4 with a life of 1", x.couponsWith(0, 0, 4), 0);
        s.says("Throws `IndexOutOfBoundsException` if house or group is not a valid index (checked first)");
        houseAndGroup((house, group) -> full.couponsWith(house, group, 4), (house, group) -> few.couponsWith(house, group, 0));
        s.badIndex("house, bad left", 6, house -> full.couponsWith(house, 0, 5));
        s.badIndex("group, bad left", 4, group -> full.couponsWith(0, group, -1));
    }

    private void lapsing() {
        s.section("Promise 21");
        s.says("Returns the number of coupons of a group that would lapse in a house if the present period ended now.");
        for (int carry : new int[] {0, 1, 50, 99, 100}) {
            RationOffice x = Towns.lives(carry);
            for (int period = 0; period < 6; period++) {
                lapsingIsLapsed(x);
                x.buy(1, 0, period % 4, 30 * period + 1);
                lapsingIsLapsed(x);
                x.nextPeriod();
            }
        }
        RationOffice y = Texts.office("group a 0 1 0;house h 1;");
        s.due("none held", y.lapsing(0, 0), 0);
        s.says("Throws `IndexOutOfBoundsException` if house or group is not a valid index");
        houseAndGroup((house, group) -> full.lapsing(house, group), (house, group) -> few.lapsing(house, group));
    }

    /** Ends the period to see what lapses, and takes it back. */
    private void lapsingIsLapsed(RationOffice x) {
        String before = Tell.all(x);
        int sum = 0;
        for (int group = 0; group < 4; group++) {
            int due = x.lapsing(0, group) + x.lapsing(1, group);
            int old = x.lapsed(group);
            sum += due;
            x.nextPeriod();
            s.due("lapsed of group " + group, x.lapsed(group) - old, due);
            x.undo();
        }
        s.due("all together", x.nextPeriod(), sum);
        x.undo();
        s.same("nothing has changed", Tell.all(x), before);
    }

    private void couponsAfter() {
        s.section("Promise 22");
        s.says("Returns the number of coupons of a group that a house would hold after some periods if nothing else changed.");
        RationOffice x = Towns.used();
        RationOffice twin = Towns.used();
        for (int periods = 0; periods <= 50; periods++) {
            for (int house = 0; house < 6; house++) {
                for (int group = 0; group < 4; group++) {
                    s.due("couponsAfter " + periods, x.couponsAfter(house, group, periods), twin.coupons(house, group));
                }
            }
            twin.nextPeriod();
        }
        s.same("nothing has changed", Tell.all(x), Tell.all(Towns.used()));
        s.says("0 to 50; so many calls of nextPeriod");
        s.due("0", x.couponsAfter(4, 2, 0), x.coupons(4, 2));
        s.due("50", x.couponsAfter(5, 3, 50), 18 * 4 + 5);
        s.says("Returns the number of coupons; BAD_VALUE if periods is out of range.");
        s.range("periods", 0, 50, periods -> x.couponsAfter(0, 0, periods));
        s.says("Throws `IndexOutOfBoundsException` if house or group is not a valid index (checked first)");
        houseAndGroup((house, group) -> full.couponsAfter(house, group, 50), (house, group) -> few.couponsAfter(house, group, 0));
        s.badIndex("house, bad periods", 6, house -> full.couponsAfter(house, 0, 51));
        s.badIndex("group, bad periods", 4, group -> full.couponsAfter(0, group, -1));
    }

    private void neediest() {
        s.section("Promise 23");
        s.says("Returns the house with the least quotient of its coupons of a group and its size.");
        RationOffice x = Texts.office("group a 9 1 0;good g a 1 1;house h 2;house i 3;house j 9;shop s g 99;");
        x.buy(0, 0, 0, 1);
        x.buy(1, 0, 0, 2);
        s.due("17 / 2, 25 / 3, 81 / 9", x.neediest(0), 1);
        x.buy(2, 0, 0, 6);
        s.due("17 / 2, 25 / 3, 75 / 9, a tie of 25 / 3", x.neediest(0), 1);
        x.buy(2, 0, 0, 1);
        s.due("17 / 2, 25 / 3, 74 / 9: 8.5, 8.33, 8.22", x.neediest(0), 2);
        x.buy(0, 0, 0, 17);
        s.due("0 / 2", x.neediest(0), 0);
        x.setSize(1, 9);
        x.undo();
        x.buy(2, 0, 0, 74);
        s.due("0 / 2, 25 / 3, 0 / 9", x.neediest(0), 0);
        s.says("Ties are broken by lower index.");
        s.due("all the same", full.neediest(0), 0);
        s.due("all 0", Texts.office("group a 0 1 0;house h 1;house i 9;").neediest(0), 0);
        RationOffice y = Texts.office("group a 6 1 0;good g a 1 1;house h 1;house i 2;house j 3;shop s g 99;");
        y.buy(1, 0, 0, 2);
        y.buy(2, 0, 0, 3);
        s.due("6, 10 / 2 and 15 / 3", y.neediest(0), 1);
        s.says("NOT_FOUND if there are no houses.");
        s.due("no houses", Texts.office("group a 1 1 1;").neediest(0), NOT_FOUND);
        s.due("one house", Texts.office("group a 1 1 1;house h 9;").neediest(0), 0);
        s.says("Throws `IndexOutOfBoundsException` if group is not a valid index");
        s.index("group of 4", 4, group -> full.neediest(group));
        s.index("group of 2", 2, group -> few.neediest(group));
        RationOffice none = new RationOffice();
        s.index("group of none", 0, group -> none.neediest(group));
    }

    private void givenAndTaken() {
        RationOffice x = Towns.full();
        x.trade(5, 4, 0, 7);
        x.trade(5, 4, 1, 6);
        x.trade(5, 3, 2, 5);
        x.trade(5, 3, 3, 2);
        x.trade(4, 5, 3, 10);
        s.section("Promise 24");
        s.says("Returns the number of coupons, of all groups together.");
        int[] given = {0, 0, 0, 0, 10, 20};
        int[] taken = {0, 0, 0, 7, 13, 10};
        for (int house = 0; house < 6; house++) {
            s.due("given by " + house, x.givenBy(house), given[house]);
        }
        s.due("no more than GIVE", x.trade(5, 0, 3, 1), RationOffice.IMPOSSIBLE);
        s.due("a refused trade gives nothing", x.givenBy(5), 20);
        s.says("Throws `IndexOutOfBoundsException` if house is not a valid index");
        s.index("house of 6", 6, house -> full.givenBy(house));
        s.index("house of 3", 3, house -> few.givenBy(house));
        s.section("Promise 25");
        s.says("Returns the number of coupons, of all groups together.");
        for (int house = 0; house < 6; house++) {
            s.due("taken by " + house, x.takenBy(house), taken[house]);
        }
        x.undo();
        s.due("undone", x.takenBy(5) + x.givenBy(4), 0);
        x.nextPeriod();
        s.due("in the next period", x.takenBy(4) + x.takenBy(3) + x.givenBy(5), 0);
        x.undo();
        s.due("undone", x.takenBy(4) + x.takenBy(3) + x.givenBy(5), 13 + 7 + 20);
        s.says("Throws `IndexOutOfBoundsException` if house is not a valid index");
        s.index("house of 6", 6, house -> full.takenBy(house));
        s.index("house of 3", 3, house -> few.takenBy(house));
    }

    private void tradeRoom() {
        s.section("Promise 26");
        s.says("Returns the greatest number of coupons of a group that a house can give to another one now.");
        RationOffice[] offices = {Towns.full(), Towns.used(), Towns.lives(100)};
        offices[1].setSetting(RationOffice.GIVE, 9);
        offices[1].setSetting(RationOffice.TAKE, 12);
        Towns.nextPeriods(offices[2], 4);
        for (RationOffice x : offices) {
            for (int from = 0; from < x.houseCount(); from++) {
                for (int to = 0; to < x.houseCount(); to++) {
                    for (int group = 0; group < 4; group++) {
                        roomIsGreatest(x, from, to, group);
                    }
                }
            }
        }
        s.says("Returns the number of coupons, at least 0;");
        RationOffice y = Towns.full();
        y.trade(5, 4, 0, 12);
        y.setSetting(RationOffice.GIVE, 11);
        s.due("12 given of 11", y.tradeRoom(5, 0, 0), 0);
        y.setSetting(RationOffice.GIVE, 12);
        s.due("12 given of 12", y.tradeRoom(5, 0, 0), 0);
        y.setSetting(RationOffice.GIVE, 13);
        s.due("12 given of 13", y.tradeRoom(5, 0, 0), 1);
        y.setSetting(RationOffice.TAKE, 0);
        s.due("12 taken of 0", y.tradeRoom(0, 4, 0), 0);
        y.setSetting(RationOffice.TAKE, 12);
        s.due("12 taken of 12", y.tradeRoom(0, 4, 0), 0);
        y.setSetting(RationOffice.TAKE, 13);
        s.due("12 taken of 13", y.tradeRoom(0, 4, 0), 1);
        y.buy(0, 0, 0, 5);
        s.due("no coupons", y.tradeRoom(0, 4, 0), 0);
        s.says("0 if from and to are the same.");
        for (int house = 0; house < 6; house++) {
            s.due("the same", full.tradeRoom(house, house, 0), 0);
        }
        s.says("Throws `IndexOutOfBoundsException` if from, to or group is not a valid index");
        s.index("from of 6", 6, from -> full.tradeRoom(from, 0, 0));
        s.index("to of 6", 6, to -> full.tradeRoom(0, to, 0));
        s.index("group of 4", 4, group -> full.tradeRoom(0, 1, group));
        s.badIndex("from and to the same", 6, bad -> full.tradeRoom(bad, bad, 0));
        s.badIndex("group, from and to the same", 4, group -> full.tradeRoom(1, 1, group));
        s.index("from of 3", 3, from -> few.tradeRoom(from, 0, 0));
        s.index("to of 3", 3, to -> few.tradeRoom(0, to, 0));
        s.index("group of 2", 2, group -> few.tradeRoom(0, 1, group));
    }

    private void roomIsGreatest(RationOffice x, int from, int to, int group) {
        int room = x.tradeRoom(from, to, group);
        s.due("one more from " + from + " to " + to, x.trade(from, to, group, room + 1) < 0, true);
        if (room > 0) {
            s.due("as many from " + from + " to " + to, x.trade(from, to, group, room) >= 0, true);
            s.due("then none", x.tradeRoom(from, to, group), 0);
            x.undo();
        }
    }

    private void helpers() {
        s.section("Promise 27");
        s.says("Returns the fewest other houses that must give coupons of a group to a house so that it holds a number of them, "
            + "within the limits of TRADING.");
        RationOffice x = Texts.office("group a 1 1 0;group b 9 1 0;house h 1;house i 2;house j 3;house k 4;house l 5;house m 9;"
            + "set give 6;set take 99;");
        int[] most = {1, 1 + 6, 1 + 6 + 5, 1 + 6 + 5 + 4, 1 + 6 + 5 + 4 + 3, 1 + 6 + 5 + 4 + 3 + 2};
        for (int count = 0; count < 6; count++) {
            s.due(count + " houses", x.helpers(0, 0, most[count]), count);
            s.due("more than " + count + " houses", x.helpers(0, 0, most[count] + 1), count == 5 ? NOT_FOUND : count + 1);
        }
        x.trade(5, 4, 1, 3);
        s.due("house 5 may give 3 more", x.helpers(0, 0, 1 + 5 + 4), 2);
        s.due("it is the third one then", x.helpers(0, 0, 1 + 5 + 4 + 3), 3);
        s.due("it gives as many as another one", x.helpers(0, 0, 1 + 5 + 4 + 3 + 3), 4);
        s.due("all together", x.helpers(0, 0, 1 + 5 + 4 + 3 + 3 + 2), 5);
        s.due("one more", x.helpers(0, 0, 1 + 5 + 4 + 3 + 3 + 2 + 1), NOT_FOUND);
        s.due("for the last house, the others", x.helpers(5, 0, 9 + 5 + 4 + 3 + 2), 4);
        s.due("for the last house, the first one too", x.helpers(5, 0, 9 + 5 + 4 + 3 + 2 + 1), 5);
        s.due("for the last house, no more", x.helpers(5, 0, 9 + 5 + 4 + 3 + 2 + 1 + 1), NOT_FOUND);
        x.setSetting(RationOffice.GIVE, 2);
        s.due("house 5 may give none now", x.helpers(0, 0, 1 + 2 * 4), 4);
        s.due("two from each of four", x.helpers(0, 0, 1 + 2 * 4 + 1), NOT_FOUND);
        RationOffice two = Texts.office("group a 9 1 0;house h 1;house i 1;");
        s.due("the first one gives", two.helpers(1, 0, 18), 1);
        s.due("the second one gives", two.helpers(0, 0, 18), 1);
        s.due("it has no more", two.helpers(1, 0, 19), NOT_FOUND);
        RationOffice down = Texts.office("group a 1 1 0;house h 9;house i 4;house j 3;house k 1;");
        s.due("the first one gives the most", down.helpers(3, 0, 1 + 9), 1);
        s.due("the second one too", down.helpers(3, 0, 1 + 9 + 4), 2);
        s.says("Returns the number of houses, 0 if it holds as many already;");
        s.due("as many", x.helpers(5, 0, 9), 0);
        s.due("more", x.helpers(5, 0, 8), 0);
        s.due("0", x.helpers(5, 0, 0), 0);
        x.setSetting(RationOffice.TAKE, 0);
        s.due("as many, and it may take none", x.helpers(5, 0, 9), 0);
        s.due("0, and it holds none", Texts.office("group a 0 1 0;house h 1;").helpers(0, 0, 0), 0);
    }

    private void helpersLimits() {
        s.says("NOT_FOUND if it is not possible;");
        s.due("no other house", Texts.office("group a 5 1 0;house h 1;").helpers(0, 0, 6), NOT_FOUND);
        RationOffice x = Texts.office("group a 9 1 0;group b 9 1 0;house h 1;house i 1;house j 1;set give 9;set take 12;");
        s.due("as many as may be taken", x.helpers(0, 0, 9 + 12), 2);
        s.due("one more than may be taken", x.helpers(0, 0, 9 + 13), NOT_FOUND);
        x.trade(1, 0, 1, 3);
        s.due("3 of another group were taken", x.helpers(0, 0, 9 + 9), 1);
        s.due("one more than may be taken now", x.helpers(0, 0, 9 + 10), NOT_FOUND);
        x.setSetting(RationOffice.TAKE, 13);
        s.due("one more may be taken", x.helpers(0, 0, 9 + 10), 2);
        x.setSetting(RationOffice.TAKE, 2);
        s.due("more was taken than may be", x.helpers(0, 0, 10), NOT_FOUND);
        s.due("all the coupons that there are", x.helpers(0, 0, 28), NOT_FOUND);
        s.says("0 to 9999, the number of coupons it would hold");
        s.due("0", x.helpers(0, 0, 0), 0);
        s.due("9999", x.helpers(0, 0, 9999), NOT_FOUND);
        s.says("BAD_VALUE if wanted is out of range.");
        s.range("wanted", 0, 9999, wanted -> x.helpers(0, 0, wanted));
        s.says("Throws `IndexOutOfBoundsException` if house or group is not a valid index (checked first)");
        houseAndGroup((house, group) -> full.helpers(house, group, 9999), (house, group) -> few.helpers(house, group, 0));
        s.badIndex("house, bad wanted", 6, house -> full.helpers(house, 0, 10000));
        s.badIndex("group, bad wanted", 4, group -> full.helpers(0, group, -1));
    }

    private void stockOf() {
        s.section("Promise 28");
        s.says("Throws `IndexOutOfBoundsException` if shop or good is not a valid index");
        shopAndGood((shop, good) -> full.stockOf(shop, good), (shop, good) -> few.stockOf(shop, good));
    }

    private void accountOf() {
        s.section("Promise 29");
        s.says("Returns the account of a shop for a group.");
        RationOffice x = Texts.office("group a 9 1 0;group b 9 1 0;group c 9 1 0;group d 9 1 0;good e a 1 1;good f b 2 1;"
            + "good g c 3 1;good h d 4 1;house i 9;shop s e 9 f 9 g 9 h 9;shop t e 9 f 9 g 9 h 9;shop u e 9 f 9 g 9 h 9;"
            + "shop v e 9 f 9 g 9 h 9;");
        for (int shop = 0; shop < 4; shop++) {
            for (int group = 0; group < 4; group++) {
                x.buy(0, shop, group, shop + 1);
            }
        }
        for (int shop = 0; shop < 4; shop++) {
            for (int group = 0; group < 4; group++) {
                s.due("account of shop " + shop + " for group " + group, x.accountOf(shop, group), (shop + 1) * (group + 1));
            }
        }
        s.says("Throws `IndexOutOfBoundsException` if shop or group is not a valid index");
        s.index("shop of 4", 4, shop -> full.accountOf(shop, 3));
        s.index("group of 4", 4, group -> full.accountOf(3, group));
        s.index("shop of 1", 1, shop -> few.accountOf(shop, 0));
        s.index("group of 2", 2, group -> few.accountOf(0, group));
    }

    private void penaltyOf() {
        s.section("Promise 30");
        s.says("Throws `IndexOutOfBoundsException` if shop is not a valid index");
        s.index("shop of 4", 4, shop -> full.penaltyOf(shop));
        s.index("shop of 1", 1, shop -> few.penaltyOf(shop));
    }

    private void isSuspended() {
        s.section("Promise 31");
        s.says("Returns true if it is.");
        RationOffice x = Towns.full();
        x.setSetting(RationOffice.TOLERANCE, 0);
        for (int shop = 0; shop < 4; shop++) {
            s.due("not yet", x.isSuspended(shop), false);
            x.audit(shop, 5, 2);
            s.due("it is", x.isSuspended(shop), true);
            x.undo();
            s.due("no more", x.isSuspended(shop), false);
        }
        s.says("Throws `IndexOutOfBoundsException` if shop is not a valid index");
        s.index("shop of 4", 4, shop -> full.isSuspended(shop) ? 1 : 0);
        s.index("shop of 1", 1, shop -> few.isSuspended(shop) ? 1 : 0);
    }

    private void soldBy() {
        s.section("Promise 32");
        s.says("Returns how many units of a good a shop has sold by buy since load.");
        RationOffice x = Towns.full();
        s.due("none", x.soldBy(0, 0), 0);
        x.buy(0, 0, 0, 8);
        s.due("a refused purchase sells nothing", x.soldBy(0, 0), 0);
        x.buy(0, 0, 0, 5);
        x.buy(5, 0, 0, 45);
        s.due("all of the stock", x.soldBy(0, 0), 50);
        x.deliver(0, 0, 9);
        x.audit(0, 0, 0);
        s.due("neither deliver nor audit sells", x.soldBy(0, 0), 50);
        s.due("nor another shop", x.soldBy(1, 0), 0);
        x.undo();
        x.undo();
        x.undo();
        s.due("undone", x.soldBy(0, 0), 5);
        Texts.load(x, Towns.FULL);
        s.due("since load", x.soldBy(0, 0), 0);
        s.says("Throws `IndexOutOfBoundsException` if shop or good is not a valid index");
        shopAndGood((shop, good) -> full.soldBy(shop, good), (shop, good) -> few.soldBy(shop, good));
    }

    private void deliveredTo() {
        s.section("Promise 33");
        s.says("Returns how many units of a good were delivered to a shop by deliver since load.");
        RationOffice x = Towns.full();
        x.deliver(0, 0, 1);
        s.due("a refused one delivers nothing", x.deliveredTo(0, 0), 0);
        x.buy(5, 0, 0, 9);
        x.deliver(0, 0, 4);
        x.deliver(0, 0, 5);
        s.due("both", x.deliveredTo(0, 0), 9);
        x.audit(0, 0, 99);
        s.due("not the audited ones", x.deliveredTo(0, 0), 9);
        s.due("none of another good", x.deliveredTo(0, 1), 0);
        Texts.load(x, Towns.FULL);
        s.due("since load", x.deliveredTo(0, 0), 0);
        s.says("Throws `IndexOutOfBoundsException` if shop or good is not a valid index");
        shopAndGood((shop, good) -> full.deliveredTo(shop, good), (shop, good) -> few.deliveredTo(shop, good));
    }

    private void turnover() {
        s.section("Promise 34");
        s.says("Returns the turnover of a shop: the sum, over all goods, of the units sold times rate.");
        RationOffice x = Texts.office("group a 99 1 0;group b 1 1 0;swap b a 1;good g a 20 1;good i a 1 1;good k a 2 1;"
            + "good l a 3 1;good m a 4 1;good n b 5 1;house h 9;shop s g 9 i 9 k 9 l 9 m 9 n 9;shop t n 9;");
        int due = 0;
        int[] rates = {20, 1, 2, 3, 4, 5};
        s.due("none", x.turnover(0), 0);
        for (int good = 0; good < 6; good++) {
            x.buy(0, 0, good, good + 1);
            due += rates[good] * (good + 1);
            s.due("up to good " + good, x.turnover(0), due);
        }
        s.due("the other shop", x.turnover(1), 0);
        x.deliver(0, 0, 1);
        s.due("deliver is no sale", x.turnover(0), due);
        s.says("Throws `IndexOutOfBoundsException` if shop is not a valid index");
        s.index("shop of 4", 4, shop -> full.turnover(shop));
        s.index("shop of 1", 1, shop -> few.turnover(shop));
    }

    private void issued() {
        s.section("Promise 35");
        s.says("Returns how many coupons of a group were issued since load, the first issue included.");
        RationOffice x = Towns.full();
        int[] rations = {5, 4, 3, 2};
        for (int issues = 1; issues <= 4; issues++) {
            for (int group = 0; group < 4; group++) {
                s.due("issues " + issues, x.issued(group), issues * 24 * rations[group]);
            }
            x.nextPeriod();
        }
        x.undo();
        s.due("undone", x.issued(0), 4 * 24 * 5);
        x.setRation(0, 0);
        x.nextPeriod();
        s.due("a ration of 0", x.issued(0), 4 * 24 * 5);
        s.due("no houses", Texts.office("group a 9 1 0;").issued(0), 0);
        Texts.load(x, Towns.FULL);
        s.due("since load", x.issued(0), 24 * 5);
        s.says("Throws `IndexOutOfBoundsException` if group is not a valid index");
        s.index("group of 4", 4, group -> full.issued(group));
        s.index("group of 2", 2, group -> few.issued(group));
    }

    private void spent() {
        s.section("Promise 36");
        s.says("Returns how many coupons of a group were spent since load, those that replaced coupons of another group "
            + "included.");
        RationOffice x = Towns.full();
        s.due("none", x.spent(0), 0);
        x.buy(1, 0, 0, 12);
        s.due("10 of its own", x.spent(0), 10);
        s.due("4 for 2", x.spent(1), 4);
        x.trade(5, 4, 1, 9);
        s.due("given ones are not spent", x.spent(1), 4);
        x.buy(1, 0, 2, 5);
        s.due("4 of its own", x.spent(1), 8);
        s.due("3 for 1", x.spent(2), 3);
        x.deliver(0, 0, 2);
        s.due("handed in ones are not spent again", x.spent(0), 10);
        x.nextPeriod();
        s.due("lapsed ones are not spent", x.spent(0), 10);
        Texts.load(x, Towns.FULL);
        s.due("since load", x.spent(0), 0);
        s.says("Throws `IndexOutOfBoundsException` if group is not a valid index");
        s.index("group of 4", 4, group -> full.spent(group));
        s.index("group of 2", 2, group -> few.spent(group));
    }

    private void lapsed() {
        s.section("Promise 37");
        s.says("Throws `IndexOutOfBoundsException` if group is not a valid index");
        s.index("group of 4", 4, group -> full.lapsed(group));
        s.index("group of 2", 2, group -> few.lapsed(group));
        s.says("Returns how many coupons of a group have lapsed since load.");
        RationOffice x = Texts.office("group a 10 1 50;group b 3 2 0;house h 1;house i 9;");
        int[] first = {0, 50, 150, 250};
        int[] second = {0, 0, 30, 60};
        for (int period = 0; period < 4; period++) {
            s.due("a behind " + period, x.lapsed(0), first[period]);
            s.due("b behind " + period, x.lapsed(1), second[period]);
            x.nextPeriod();
        }
        x.load(0);
        Texts.load(x, "group a 10 1 50;house h 1;");
        s.due("since load", x.lapsed(0), 0);
    }

    private void held() {
        s.section("Promise 38");
        s.says("Returns how many coupons of a group all houses hold together.");
        RationOffice x = Towns.used();
        for (int group = 0; group < 4; group++) {
            int sum = 0;
            for (int house = 0; house < 6; house++) {
                sum += x.coupons(house, group);
            }
            s.due("held of " + group, x.held(group), sum);
            s.due("issued, spent and lapsed", x.issued(group) - x.spent(group) - x.lapsed(group), sum);
        }
        s.due("no houses", Texts.office("group a 9 1 0;").held(0), 0);
        s.says("Throws `IndexOutOfBoundsException` if group is not a valid index");
        s.index("group of 4", 4, group -> full.held(group));
        s.index("group of 2", 2, group -> few.held(group));
    }
}
