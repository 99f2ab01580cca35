/** OFFICE to CHANGES of the document's description. */
final class OfficeSentences {
    private static final int NOT_FOUND = RationOffice.NOT_FOUND;
    private static final int BAD_VALUE = RationOffice.BAD_VALUE;
    private static final int LACKING = RationOffice.LACKING;
    private static final int IMPOSSIBLE = RationOffice.IMPOSSIBLE;
    private final Sentences s;

    OfficeSentences(Sentences sentences) {
        s = sentences;
    }

    void run() {
        s.section("OFFICE");
        mostOfEach();
        indexedFromNought();
        groupRanges();
        goodAndHouseRanges();
        shopBeginnings();
        settings();
        suspended();
        s.section("COUPONS");
        periodsLeft();
        carriedOnce();
        oldestFirst();
        issues();
        s.section("PERIODS");
        carriedLapse();
        carryIsRounded();
        onePeriodLess();
        nextPeriodBegins();
        s.section("BUYING");
        costs();
        substitutes();
        noSecondSubstitute();
        accounts();
        reasons();
        s.section("DELIVERIES");
        deliveries();
        s.section("TRADING");
        trading();
        limits();
        s.section("AUDITS");
        audits();
    }

    private void mostOfEach() {
        s.says("There are at most 4 groups, 6 goods, 6 houses and 4 shops, each indexed from 0 in the order in which they "
            + "are declared.");
        RationOffice x = Towns.full();
        s.due("groups", x.groupCount(), 4);
        s.due("goods", x.goodCount(), 6);
        s.due("houses", x.houseCount(), 6);
        s.due("shops", x.shopCount(), 4);
        int end = Towns.FULL.length();
        s.error(Towns.FULL + "group z 1 1 1;", RationOffice.COUNT_ERROR, end);
        s.error(Towns.FULL + "good z a 1 1;", RationOffice.COUNT_ERROR, end);
        s.error(Towns.FULL + "house z 1;", RationOffice.COUNT_ERROR, end);
        s.error(Towns.FULL + "shop z;", RationOffice.COUNT_ERROR, end);
        s.loads("", 0);
    }

    private void indexedFromNought() {
        RationOffice x = Texts.office("shop w;house v 4;group u 1 1 1;good t u 3 1;house s 5;group r 2 1 1;shop q;"
            + "good p r 4 1;house o 6;");
        s.due("the first group", x.groupNamed(Texts.letters("u")), 0);
        s.due("the second group", x.groupNamed(Texts.letters("r")), 1);
        s.due("the first good", x.goodNamed(Texts.letters("t")), 0);
        s.due("the second good", x.goodNamed(Texts.letters("p")), 1);
        s.due("the first house", x.houseNamed(Texts.letters("v")), 0);
        s.due("the third house", x.houseNamed(Texts.letters("o")), 2);
        s.due("the first shop", x.shopNamed(Texts.letters("w")), 0);
        s.due("the second shop", x.shopNamed(Texts.letters("q")), 1);
        s.due("the first house's size", x.sizeOf(0), 4);
        s.due("the third house's size", x.sizeOf(2), 6);
        s.due("the second good's rate", x.goodProperty(1, 1), 4);
        s.due("the second group's ration", x.groupProperty(1, 0), 2);
    }

    /** The number must be taken at both ends of its range, and refused beyond them. */
    private void ends(String before, int least, int greatest, String behind) {
        s.due(before + least + behind, Texts.load(new RationOffice(), before + least + behind) > 0, true);
        s.due(before + greatest + behind, Texts.load(new RationOffice(), before + greatest + behind) > 0, true);
        s.error(before + (greatest + 1) + behind, RationOffice.RANGE_ERROR, before.length());
        if (least > 0) {
            s.error(before + (least - 1) + behind, RationOffice.RANGE_ERROR, before.length());
        } else {
            s.error(before + "-1" + behind, RationOffice.SYNTAX_ERROR, before.length());
        }
    }

    private void groupRanges() {
        s.says("A group has a ration (0 to 99), a life (1 to 4 periods) and a carry (0 to 100 per cent); it can have a "
            + "substitute, another group, with a factor (1 to 9).");
        ends("group a ", 0, 99, " 1 1;");
        ends("group a 1 ", 1, 4, " 1;");
        ends("group a 1 1 ", 0, 100, ";");
        ends("group a 1 1 1;group b 1 1 1;swap a b ", 1, 9, ";");
        RationOffice x = Texts.office("group a 0 1 0;group b 99 4 100;swap a b 1;swap b a 9;house h 9;");
        int[] least = {0, 1, 0, 1, 1};
        int[] greatest = {99, 4, 100, 0, 9};
        for (int what = 0; what < 5; what++) {
            s.due("least " + what, x.groupProperty(0, what), least[what]);
            s.due("greatest " + what, x.groupProperty(1, what), greatest[what]);
        }
        s.due("a ration of 0", x.coupons(0, 0), 0);
        s.due("a ration of 99", x.coupons(0, 1), 891);
        s.error("group a 1 1 1;swap a a 1;", RationOffice.DUPLICATE_ERROR, 21);
        s.due("no substitute", Texts.office("group a 1 1 1;").groupProperty(0, 3), NOT_FOUND);
    }

    private void goodAndHouseRanges() {
        s.says("A good is of a group and has a rate (1 to 20), the number of coupons of its group that one unit costs, and a "
            + "value (0 to 99).");
        ends("group a 1 1 1;good g a ", 1, 20, " 1;");
        ends("group a 1 1 1;good g a 1 ", 0, 99, ";");
        RationOffice x = Texts.office("group a 20 1 1;good g a 1 0;good i a 20 99;house h 1;shop s g 99 i 9;");
        s.due("all for a rate of 1", x.mostUnits(0, 0, 0), 20);
        s.due("all for a rate of 20", x.mostUnits(0, 0, 1), 1);
        s.due("a value of 0", x.goodProperty(0, 2), 0);
        s.due("a value of 99", x.basketValue(0, 0), 99);
        s.says("A house has a size (1 to 9), the number of its persons.");
        ends("house h ", 1, 9, ";");
        RationOffice y = Texts.office("group a 3 1 1;house h 1;house i 9;");
        s.due("coupons of one person", y.coupons(0, 0), 3);
        s.due("coupons of nine persons", y.coupons(1, 0), 27);
    }

    private void shopBeginnings() {
        s.says("A shop has a stock of each good (0 to 99999 units), an account of each group (in coupons, 0 at first) and a "
            + "penalty (0 at first).");
        RationOffice x = Towns.full();
        for (int shop = 0; shop < 4; shop++) {
            s.due("penalty", x.penaltyOf(shop), 0);
            for (int group = 0; group < 4; group++) {
                s.due("account", x.accountOf(shop, group), 0);
            }
        }
        s.due("a stock of 0", x.stockOf(3, 5), 0);
        x.buy(0, 0, 0, 5);
        x.audit(0, 0, 99999);
        s.due("a stock of 99999", x.stockOf(0, 0), 99999);
        s.due("no stock of 100000 by deliver", x.deliver(0, 0, 1), RationOffice.FULL);
        s.due("no stock of 100000 by audit", x.audit(0, 0, 100000), BAD_VALUE);
        s.due("no stock of -1 by audit", x.audit(0, 0, -1), BAD_VALUE);
        s.due("the stock stays", x.stockOf(0, 0), 99999);
        x.audit(0, 0, 1);
        x.pardon(0);
        s.due("down to 0", x.buy(1, 0, 0, 1), 9);
        s.due("not to -1", x.buy(1, 0, 0, 1), IMPOSSIBLE);
        s.due("the stock is 0", x.stockOf(0, 0), 0);
    }

    private void settings() {
        s.says("The settings, with their ranges and initial values, are GIVE (0 to 999, initially 20), TAKE (0 to 999, "
            + "initially 20) and TOLERANCE (0 to 9999, initially 10).");
        RationOffice[] offices = {new RationOffice(), Texts.office(""), Texts.office("house h 1;")};
        for (RationOffice x : offices) {
            s.due("GIVE", x.getSetting(RationOffice.GIVE), 20);
            s.due("TAKE", x.getSetting(RationOffice.TAKE), 20);
            s.due("TOLERANCE", x.getSetting(RationOffice.TOLERANCE), 10);
            s.range("GIVE", 0, 999, value -> x.setSetting(RationOffice.GIVE, value));
            s.range("TAKE", 0, 999, value -> x.setSetting(RationOffice.TAKE, value));
            s.range("TOLERANCE", 0, 9999, value -> x.setSetting(RationOffice.TOLERANCE, value));
        }
        ends("set give ", 0, 999, ";");
        ends("set take ", 0, 999, ";");
        ends("set tolerance ", 0, 9999, ";");
    }

    private void suspended() {
        s.says("A shop is suspended if its penalty is greater than TOLERANCE.");
        RationOffice x = Texts.office("group a 1 1 1;good g a 1 1;shop s;shop t;");
        x.audit(0, 0, 10);
        s.due("10 of 10", x.isSuspended(0), false);
        x.audit(0, 0, 11);
        s.due("11 of 10", x.isSuspended(0), true);
        s.due("the other shop", x.isSuspended(1), false);
        x.setSetting(RationOffice.TOLERANCE, 11);
        s.due("11 of 11", x.isSuspended(0), false);
        x.setSetting(RationOffice.TOLERANCE, 0);
        s.due("11 of 0", x.isSuspended(0), true);
        s.due("0 of 0", x.isSuspended(1), false);
        x.audit(1, 0, 1);
        s.due("1 of 0", x.isSuspended(1), true);
        x.pardon(1);
        s.due("pardoned", x.isSuspended(1), false);
        x.setSetting(RationOffice.TOLERANCE, 9999);
        x.audit(1, 0, 10000);
        s.due("9999 of 9999", x.isSuspended(1), false);
        x.audit(1, 0, 9999);
        s.due("10000 of 9999", x.isSuspended(1), true);
    }

    private void periodsLeft() {
        s.says("A fresh coupon has a number of periods left, from the life of its group when it is issued down to 1; with 1 "
            + "left it can still be used in the present period.");
        for (int group = 0; group < 4; group++) {
            RationOffice x = Towns.lives(0);
            for (int rations = 0; rations < 4; rations++) {
                x.setRation(rations, 0);
            }
            for (int left = group + 1; left >= 1; left--) {
                for (int place = 0; place < 5; place++) {
                    s.due("group " + group + " with " + place, x.couponsWith(0, group, place), place == left ? 10 : 0);
                }
                x.nextPeriod();
            }
            s.due("none is left of group " + group, x.coupons(0, group), 0);
            x.undo();
            s.due("with 1 left, 10 can be spent, group " + group, x.buy(0, 0, group, 10), 0);
        }
    }

    private void carriedOnce() {
        s.says("A carried coupon can be used in the present period only.");
        RationOffice x = Texts.office("group a 10 1 100;good g a 1 1;house h 1;house i 1;shop s g 99;");
        x.setRation(0, 0);
        x.nextPeriod();
        s.same("carried", Towns.places(x, 0, 0), "10 0 0 0 0");
        s.due("given now", x.trade(0, 1, 0, 3), 7);
        s.due("used now", x.buy(0, 0, 0, 5), 2);
        s.due("the others lapse, even with a carry of 100", x.nextPeriod(), 2 + 13);
        s.due("held then", x.held(0), 0);
    }

    /** Five places with coupons in each: house 1 holds 70 of each age, the oldest ones carried. */
    private static RationOffice five() {
        RationOffice x = Towns.lives(100);
        Towns.nextPeriods(x, 4);
        return x;
    }

    private void oldestFirst() {
        s.says("When a house spends or gives coupons of a group, it takes the carried ones first, then the fresh ones with 1 "
            + "period left, then those with 2 left, and so on.");
        RationOffice x = five();
        s.same("at first", Towns.places(x, 1, 3), "70 70 70 70 70");
        x.buy(1, 0, 3, 70);
        s.same("all carried ones spent", Towns.places(x, 1, 3), "0 70 70 70 70");
        x.buy(1, 0, 3, 69);
        s.same("all with 1 left but one", Towns.places(x, 1, 3), "0 1 70 70 70");
        x.buy(1, 0, 3, 2);
        s.same("one with 2 left", Towns.places(x, 1, 3), "0 0 69 70 70");
        x.buy(1, 0, 3, 69 + 70 + 1);
        s.same("one with 4 left", Towns.places(x, 1, 3), "0 0 0 0 69");
        s.due("all", x.buy(1, 0, 3, 69), 0);
        RationOffice y = five();
        y.trade(1, 0, 3, 71);
        s.same("given: all carried ones and one with 1 left", Towns.places(y, 1, 3), "0 69 70 70 70");
        y.trade(1, 0, 3, 69 + 70 + 70 + 1);
        s.same("given: up to one with 4 left", Towns.places(y, 1, 3), "0 0 0 0 69");
        y.trade(1, 0, 3, 69);
        s.same("taken as they were", Towns.places(y, 0, 3), "80 80 80 80 80");
    }

    private void issues() {
        s.says("An issue gives to each house, of each group, the size of the house times the ration of the group as fresh "
            + "coupons.");
        RationOffice x = Texts.office("group a 0 1 100;group b 99 4 100;house h 1;house i 9;");
        s.same("1 times 99", Towns.places(x, 0, 1), "0 0 0 0 99");
        s.same("9 times 99", Towns.places(x, 1, 1), "0 0 0 0 891");
        s.same("9 times 0", Towns.places(x, 1, 0), "0 0 0 0 0");
        x.setRation(0, 5);
        x.setSize(0, 2);
        s.same("nothing before the next issue", Towns.places(x, 0, 0), "0 0 0 0 0");
        x.nextPeriod();
        s.same("the new size times the new ration", Towns.places(x, 0, 0), "0 10 0 0 0");
        s.same("as fresh ones", Towns.places(x, 0, 1), "0 0 0 99 198");
        s.says("The first issue is made by load, behind all statements, for period 0.");
        RationOffice y = Texts.office("house h 3;group a 7 2 0;house i 1;group b 4 1 0;");
        s.due("a house before its group", y.coupons(0, 0), 21);
        s.due("a house before the second group", y.coupons(1, 1), 4);
        s.due("a house behind the first group", y.coupons(1, 0), 7);
        s.due("period", y.period(), 0);
        s.due("issued", y.issued(1), 16);
        s.due("before load there is none", new RationOffice().houseCount(), 0);
    }

    private void carriedLapse() {
        s.says("For each house and group, all carried coupons lapse.");
        RationOffice x = five();
        for (int house = 0; house < 2; house++) {
            for (int group = 0; group < 4; group++) {
                s.due("carried ones", x.couponsWith(house, group, 0), house == 0 ? 10 : 70);
                s.due("they would lapse", x.lapsing(house, group), house == 0 ? 10 : 70);
            }
        }
        s.due("they lapse", x.nextPeriod(), 4 * 80);
    }

    private void carryIsRounded() {
        s.says("Of the fresh coupons with 1 period left, the number times carry divided by 100, rounded down, becomes "
            + "carried; the others lapse.");
        int[] carries = {0, 1, 33, 34, 50, 66, 67, 99, 100};
        int[] numbers = {0, 1, 2, 3, 7, 9, 50, 63, 64, 81, 99, 100, 101, 198, 200, 297, 300, 891};
        for (int carry : carries) {
            for (int number : numbers) {
                int size = number % 9 == 0 ? 9 : number % 7 == 0 ? 7 : number % 4 == 0 ? 4 : number % 2 == 0 ? 2 : 1;
                if (number / size <= 99) {
                    carryOf(carry, size, number / size);
                }
            }
        }
    }

    private void carryOf(int carry, int size, int ration) {
        RationOffice x = Texts.office("group a " + ration + " 1 " + carry + ";house h " + size + ";");
        String call = size + " times " + ration + ", carry " + carry;
        int carried = 0;
        while ((carried + 1) * 100 <= size * ration * carry) {
            carried++;
        }
        s.due("lapsing, " + call, x.lapsing(0, 0), size * ration - carried);
        s.due("lapsed, " + call, x.nextPeriod(), size * ration - carried);
        s.due("carried, " + call, x.couponsWith(0, 0, 0), carried);
    }

    private void onePeriodLess() {
        s.says("All other fresh coupons have one period less left.");
        RationOffice x = Texts.office("group a 1 4 100;house h 1;");
        int[] rations = {2, 3, 4, 0, 0, 0, 0, 0};
        String[] due = {"0 0 0 1 2", "0 0 1 2 3", "0 1 2 3 4", "1 2 3 4 0", "2 3 4 0 0", "3 4 0 0 0", "4 0 0 0 0",
            "0 0 0 0 0"};
        for (int period = 0; period < 8; period++) {
            x.setRation(0, rations[period]);
            x.nextPeriod();
            s.same("behind period " + period, Towns.places(x, 0, 0), due[period]);
        }
    }

    private void nextPeriodBegins() {
        s.says("Then the present period increases by 1, what the houses have given and taken is 0 again, and an issue is made.");
        RationOffice x = Towns.full();
        for (int house = 0; house < 5; house++) {
            x.trade(house, house + 1, 3, 1);
        }
        for (int period = 1; period <= 3; period++) {
            x.nextPeriod();
            s.due("period", x.period(), period);
            for (int house = 0; house < 6; house++) {
                s.due("given", x.givenBy(house), 0);
                s.due("taken", x.takenBy(house), 0);
                s.due("issued to house " + house, x.couponsWith(house, 3, 4), 2 * x.sizeOf(house));
            }
        }
        s.due("issued", x.issued(3), 4 * 2 * 24);
    }

    private void costs() {
        s.says("A number of units of a good costs units times rate coupons of the group of the good.");
        RationOffice x = Texts.office("group a 60 1 0;group b 60 1 0;good g a 20 1;good k b 1 1;house h 1;shop s g 99 k 99;");
        s.due("61 of 60", x.buy(0, 0, 1, 61), LACKING);
        s.due("60 of 60", x.buy(0, 0, 1, 60), 0);
        s.due("the other group", x.coupons(0, 0), 60);
        s.due("4 times 20 of 60", x.buy(0, 0, 0, 4), LACKING);
        s.due("1 times 20 of 60", x.buy(0, 0, 0, 1), 40);
        s.due("3 times 20 of 40", x.buy(0, 0, 0, 3), LACKING);
        s.due("2 times 20 of 40", x.buy(0, 0, 0, 2), 0);
        s.due("1 times 20 of 0", x.buy(0, 0, 0, 1), LACKING);
    }

    private void substitutes() {
        s.says("If the house has fewer of them and the group has a substitute, the house pays with all that it has of them, "
            + "and for each one that is lacking with factor coupons of the substitute.");
        for (int factor : new int[] {1, 2, 9}) {
            RationOffice x = Texts.office("group a 10 1 0;group b 18 1 0;swap a b " + factor + ";good g a 1 1;house h 1;"
                + "shop s g 99;");
            int most = 10 + 18 / factor;
            s.due("one too many, factor " + factor, x.buy(0, 0, 0, most + 1), LACKING);
            s.due("no fewer, factor " + factor, x.buy(0, 0, 0, 10), 0);
            s.due("the substitute stays whole", x.coupons(0, 1), 18);
            s.due("one lacking, factor " + factor, x.buy(0, 0, 0, 1), 0);
            s.due("for it", x.coupons(0, 1), 18 - factor);
            x.undo();
            x.undo();
            s.due("all that can be, factor " + factor, x.buy(0, 0, 0, most), 0);
            s.due("the substitute is gone", x.coupons(0, 1), 0);
            s.due("spent", x.spent(0) * 100 + x.spent(1), 1018);
        }
        RationOffice first = Texts.office("group a 8 1 0;group b 3 1 0;swap b a 4;good g b 1 1;house h 1;shop s g 99;");
        s.due("the first group as a substitute, 3 lacking", first.buy(0, 0, 0, 6), LACKING);
        s.due("the first group as a substitute, 2 lacking", first.buy(0, 0, 0, 5), 0);
        s.due("the first group", first.coupons(0, 0), 0);
        RationOffice y = Texts.office("group a 9 1 0;group b 17 1 0;swap a b 9;good g a 5 1;house h 1;shop s g 99;");
        s.due("one lacking", y.buy(0, 0, 0, 2), 0);
        s.due("one coupon over for the next", y.coupons(0, 1), 8);
        s.due("five lacking", y.buy(0, 0, 0, 1), LACKING);
        s.due("nothing is spent then", y.coupons(0, 1), 8);
    }

    private void noSecondSubstitute() {
        s.says("(A substitute is not replaced in its turn.) The units leave the stock of the shop, and units times rate is "
            + "added to the account of the shop for the group of the good, however it was paid.");
        RationOffice x = Texts.office("group a 3 1 0;group b 4 1 0;group c 90 1 0;swap a b 1;swap b c 1;swap c a 1;"
            + "good g a 1 1;house h 1;shop s g 99;");
        s.due("8 of 3 and 4", x.buy(0, 0, 0, 8), LACKING);
        s.due("7 of 3 and 4", x.buy(0, 0, 0, 7), 0);
        s.due("the substitute's substitute stays", x.coupons(0, 2), 90);
        RationOffice y = Texts.office("group a 3 1 0;group b 4 1 0;swap a b 1;swap b a 1;good g a 1 1;house h 1;shop s g 99;");
        s.due("each for the other: 8 of 3 and 4", y.buy(0, 0, 0, 8), LACKING);
        s.due("each for the other: 7 of 3 and 4", y.buy(0, 0, 0, 7), 0);
    }

    private void accounts() {
        RationOffice x = Texts.office("group a 3 1 0;group b 99 1 0;swap a b 9;good g a 2 1;house h 1;shop s g 9;shop t g 9;");
        x.buy(0, 0, 0, 1);
        s.due("paid with the group", x.accountOf(0, 0), 2);
        x.buy(0, 0, 0, 1);
        s.due("paid with both", x.accountOf(0, 0), 4);
        x.buy(0, 0, 0, 4);
        s.due("paid with the substitute", x.accountOf(0, 0), 12);
        s.due("the account for the substitute", x.accountOf(0, 1), 0);
        s.due("the other shop's account", x.accountOf(1, 0), 0);
        s.due("the stock", x.stockOf(0, 0), 3);
        s.due("the other shop's stock", x.stockOf(1, 0), 9);
        s.due("spent", x.spent(0) * 100 + x.spent(1), 3 * 100 + 9 * 9);
    }

    private void reasons() {
        s.says("A purchase is not possible for these reasons, which are numbered: 1: the shop is suspended. 2: the stock of "
            + "the shop is less than the units. 3: the house cannot pay, neither by coupons of the group nor with the "
            + "substitute.");
        RationOffice x = Texts.office("group a 5 1 0;group b 5 1 0;swap a b 5;good g a 1 1;good i a 1 1;good k b 1 1;house h 1;"
            + "shop s g 5 i 9 k 6;");
        s.due("as many as stock", x.reasonFor(0, 0, 0, 5), 0);
        s.due("one more than stock", x.reasonFor(0, 0, 0, 6), 2);
        s.due("with the substitute", x.reasonFor(0, 0, 1, 6), 0);
        s.due("too dear with the substitute", x.reasonFor(0, 0, 1, 7), 3);
        s.due("without a substitute", x.reasonFor(0, 0, 2, 5), 0);
        s.due("too dear without a substitute", x.reasonFor(0, 0, 2, 6), 3);
        s.due("too many and too dear", x.reasonFor(0, 0, 2, 7), 2);
        x.setSetting(RationOffice.TOLERANCE, 0);
        x.audit(0, 0, 6);
        s.due("suspended", x.reasonFor(0, 0, 0, 5), 1);
        s.due("suspended and too many", x.reasonFor(0, 0, 0, 7), 1);
        s.due("suspended and too dear", x.reasonFor(0, 0, 1, 7), 1);
        s.due("suspended, too many and too dear", x.reasonFor(0, 0, 2, 7), 1);
    }

    private void deliveries() {
        s.says("A shop gets units of a good by handing in units times rate coupons from its account for the group of the "
            + "good.");
        RationOffice x = Texts.office("group a 99 1 0;good g a 1 1;good k a 20 1;house h 1;shop s g 99;");
        x.buy(0, 0, 0, 59);
        s.due("3 times 20 of 59", x.deliver(0, 1, 3), LACKING);
        s.due("2 times 20 of 59", x.deliver(0, 1, 2), 2);
        s.due("account", x.accountOf(0, 0), 19);
        s.due("20 times 1 of 19", x.deliver(0, 0, 20), LACKING);
        s.due("19 times 1 of 19", x.deliver(0, 0, 19), 40 + 19);
        s.due("account", x.accountOf(0, 0), 0);
        s.due("1 times 1 of 0", x.deliver(0, 0, 1), LACKING);
    }

    private void trading() {
        s.says("A house can give coupons of a group to another one; they stay fresh or carried, with the periods that they "
            + "have left.");
        RationOffice x = five();
        x.trade(1, 0, 3, 70 + 70 + 70 + 70 + 5);
        s.same("given", Towns.places(x, 1, 3), "0 0 0 0 65");
        s.same("taken", Towns.places(x, 0, 3), "80 80 80 80 15");
        s.due("none of another group", x.coupons(0, 2), 40);
        s.due("none is spent", x.spent(3), 0);
        s.due("none is lost", x.held(3), 5 * 80);
        s.due("not to itself", x.trade(1, 1, 3, 1), NOT_FOUND);
    }

    private void limits() {
        s.says("In one period a house gives at most GIVE coupons and takes at most TAKE coupons, of all groups together.");
        RationOffice x = Texts.office("group a 9 1 0;group b 9 1 0;house h 3;house i 3;house j 3;set give 10;set take 12;");
        s.due("11 of 10 to give", x.trade(0, 1, 0, 11), IMPOSSIBLE);
        s.due("6 of 10", x.trade(0, 1, 0, 6), 21);
        s.due("5 more, of the other group", x.trade(0, 1, 1, 5), IMPOSSIBLE);
        s.due("5 more, to the other house", x.trade(0, 2, 0, 5), IMPOSSIBLE);
        s.due("4 more", x.trade(0, 1, 1, 4), 23);
        s.due("1 more", x.trade(0, 2, 1, 1), IMPOSSIBLE);
        s.due("10 taken, 3 more", x.trade(2, 1, 0, 3), IMPOSSIBLE);
        s.due("10 taken, 2 more", x.trade(2, 1, 0, 2), 25);
        s.due("12 taken, 1 more", x.trade(2, 1, 1, 1), IMPOSSIBLE);
        s.due("what was taken can be given", x.trade(1, 0, 1, 10), 21);
        x.nextPeriod();
        s.due("10 in the next period", x.trade(0, 1, 0, 10), 17);
        x.setSetting(RationOffice.GIVE, 0);
        s.due("1 of 0 to give", x.trade(2, 0, 0, 1), IMPOSSIBLE);
        x.setSetting(RationOffice.GIVE, 1);
        x.setSetting(RationOffice.TAKE, 0);
        s.due("1 of 0 to take", x.trade(2, 0, 0, 1), IMPOSSIBLE);
        x.setSetting(RationOffice.TAKE, 1);
        s.due("1 of 1", x.trade(2, 0, 0, 1), 26);
        RationOffice y = Texts.office("group a 99 4 0;house h 9;house i 9;set give 999;set take 999;");
        y.nextPeriod();
        s.due("999 of 999", y.trade(0, 1, 0, 999), 783);
        s.due("1 more than 999", y.trade(0, 1, 0, 1), IMPOSSIBLE);
    }

    private void audits() {
        s.says("The difference of this count and the stock, whether more or less, times rate is added to the penalty of the "
            + "shop, and the stock becomes the count.");
        RationOffice x = Texts.office("group a 1 1 0;good g a 20 1;good k a 1 1;shop s g 5;");
        s.due("the same", x.audit(0, 0, 5), 0);
        s.due("1 less", x.audit(0, 0, 4), 20);
        s.due("1 more", x.audit(0, 0, 5), 40);
        s.due("5 less", x.audit(0, 0, 0), 140);
        s.due("none, as before", x.audit(0, 0, 0), 140);
        s.due("the other rate", x.audit(0, 1, 3), 143);
        s.due("all", x.audit(0, 0, 99999), 143 + 99999 * 20);
        s.due("stock", x.stockOf(0, 0), 99999);
        s.due("none", x.audit(0, 0, 0), 143 + 2 * 99999 * 20);
        s.due("stock", x.stockOf(0, 0), 0);
        s.due("the other stock", x.stockOf(0, 1), 3);
    }
}
