/** CHANGES of the document's description, and promises 56 to 65. */
final class ChangeSentences {
    private static final int NOT_FOUND = RationOffice.NOT_FOUND;
    private static final int BAD_VALUE = RationOffice.BAD_VALUE;
    private static final int FULL = RationOffice.FULL;
    private static final int LACKING = RationOffice.LACKING;
    private static final int IMPOSSIBLE = RationOffice.IMPOSSIBLE;
    private final Sentences s;

    ChangeSentences(Sentences sentences) {
        s = sentences;
    }

    void run() {
        s.section("CHANGES");
        changes();
        asBefore();
        tenLatest();
        refusals();
        buy();
        buyRefusals();
        deliver();
        deliverRefusals();
        trade();
        tradeRefusals();
        audit();
        pardon();
        nextPeriod();
        setRation();
        setSize();
        setSetting();
        undo();
        lastCall();
    }

    /** Makes one of the nine kinds of change; each is possible in a used office. */
    private static int change(RationOffice x, int kind) {
        switch (kind) {
            case 0:
                return x.buy(5, 0, 2, 4);
            case 1:
                return x.deliver(0, 0, 2);
            case 2:
                return x.trade(5, 1, 3, 7);
            case 3:
                return x.audit(1, 1, 3);
            case 4:
                return x.pardon(2);
            case 5:
                return x.nextPeriod();
            case 6:
                return x.setRation(2, 77);
            case 7:
                return x.setSize(3, 8);
            default:
                return x.setSetting(RationOffice.TAKE, 555);
        }
    }

    /** The same kinds, but so that nothing looks different behind them. */
    private static int idleChange(RationOffice x, int kind) {
        switch (kind) {
            case 0:
                return x.audit(0, 0, x.stockOf(0, 0));
            case 1:
                return x.pardon(0);
            case 2:
                return x.setRation(1, x.groupProperty(1, 0));
            case 3:
                return x.setSize(2, x.sizeOf(2));
            default:
                return x.setSetting(RationOffice.TOLERANCE, x.getSetting(RationOffice.TOLERANCE));
        }
    }

    private void changes() {
        s.says("The methods buy, deliver, trade, audit, pardon, nextPeriod, setRation, setSize and setSetting make changes.");
        for (int kind = 0; kind < 9; kind++) {
            RationOffice x = Towns.used();
            String before = Tell.all(x);
            s.due("change " + kind, change(x, kind) >= 0, true);
            s.due("it is seen", Tell.all(x).equals(before), false);
            s.due("undoCount behind change " + kind, x.undoCount(), 10);
        }
        for (int kind = 0; kind < 5; kind++) {
            RationOffice x = Towns.full();
            String before = Tell.all(x);
            s.due("idle change " + kind, idleChange(x, kind) >= 0, true);
            s.same("nothing is seen", Tell.all(x), before);
            s.due("undoCount behind idle change " + kind, x.undoCount(), 1);
        }
        RationOffice x = new RationOffice();
        Texts.load(x, Towns.FULL);
        Texts.load(x, "#");
        x.basketValue(0, 0);
        x.undo();
        s.due("load, feed, queries and undo make none", x.undoCount(), 0);
    }

    private void asBefore() {
        s.says("A change can be undone; everything is then as before it.");
        for (int kind = 0; kind < 9; kind++) {
            RationOffice x = Towns.used();
            String before = Tell.all(x);
            change(x, kind);
            s.due("undo of change " + kind, x.undo(), 9);
            s.same("as before change " + kind, Tell.all(x), before);
            s.due("undoCount", x.undoCount(), 9);
        }
        RationOffice x = Towns.used();
        RationOffice twin = Towns.used();
        for (int kind = 0; kind < 9; kind++) {
            change(x, kind);
        }
        for (int kind = 8; kind >= 0; kind--) {
            x.undo();
            RationOffice other = Towns.used();
            for (int done = 0; done < kind; done++) {
                change(other, done);
            }
            s.same("as behind " + kind + " changes", Tell.all(x), Tell.all(other));
        }
        s.same("as before all", Tell.all(x), Tell.all(twin));
        s.due("buying goes on as before", x.buy(5, 0, 0, 9), twin.buy(5, 0, 0, 9));
        s.same("as the other", Tell.all(x), Tell.all(twin));
    }

    private void tenLatest() {
        s.says("At most the 10 latest changes are kept.");
        for (int made = 0; made <= 45; made++) {
            RationOffice x = Texts.office("group a 0 1 0;house h 1;");
            for (int change = 1; change <= made; change++) {
                x.setRation(0, change);
            }
            int kept = Math.min(made, 10);
            s.due("kept of " + made, x.undoCount(), kept);
            for (int left = kept - 1; left >= 0; left--) {
                s.due("undo", x.undo(), left);
                s.due("the change before", x.groupProperty(0, 0), made - kept + left);
            }
            s.due("no more", x.undo(), NOT_FOUND);
            s.due("no more", x.groupProperty(0, 0), made - kept);
        }
        RationOffice x = Texts.office("group a 0 1 0;house h 1;");
        int ration = 0;
        int kept = 0;
        for (int round = 1; round <= 9; round++) {
            for (int change = 0; change < round; change++) {
                x.setRation(0, ++ration);
                kept = Math.min(kept + 1, 10);
            }
            for (int change = 0; change < round - 1; change++) {
                s.due("undo in round " + round, x.undo(), --kept);
                s.due("ration in round " + round, x.groupProperty(0, 0), --ration);
            }
            s.due("kept in round " + round, x.undoCount(), kept);
        }
    }

    private void refusals() {
        s.says("A call that returns an error code or throws an exception changes nothing, except where its description says "
            + "otherwise.");
        RationOffice x = Towns.used();
        x.setSetting(RationOffice.TOLERANCE, 4);
        Texts.feed(x, "house z 1;");
        String before = Tell.all(x);
        int[] answers = {x.buy(6, 0, 0, 1), x.buy(0, 4, 0, 1), x.buy(0, 0, 6, 1), x.buy(0, 0, 0, 0), x.buy(0, 0, 0, 10000),
            x.buy(0, 2, 4, 1), x.buy(0, 1, 0, 51), x.buy(0, 1, 0, 50), x.deliver(4, 0, 1), x.deliver(0, 6, 1),
            x.deliver(0, 0, 0), x.deliver(0, 0, 9999), x.trade(6, 0, 0, 1), x.trade(0, 6, 0, 1), x.trade(0, 1, 4, 1),
            x.trade(0, 0, 0, 1), x.trade(0, 1, 0, 0), x.trade(0, 1, 0, 999), x.trade(5, 0, 0, 21), x.audit(4, 0, 0),
            x.audit(0, 6, 0), x.audit(0, 0, -1), x.audit(0, 0, 100000), x.pardon(4), x.pardon(-1), x.setRation(4, 1),
            x.setRation(0, 100), x.setSize(6, 1), x.setSize(0, 0), x.setSetting(3, 1), x.setSetting(0, 1000), x.load(-1),
            x.load(21), x.couponsAfter(0, 0, 51), x.waitFor(0, 0, 0), x.served(0, 0, 0), x.helpers(0, 0, -1),
            x.levelMoves(0, 1000), x.groupNamed(0), x.substituted(0, 0, 9999), x.reasonFor(0, 0, 0, 0)};
        for (int index = 0; index < answers.length; index++) {
            s.due("call " + index + " is refused", answers[index] < 0, true);
        }
        s.outOfBounds("coupons", () -> x.coupons(6, 0));
        s.outOfBounds("basketValue", () -> x.basketValue(0, 4));
        s.outOfBounds("couponsAfter", () -> x.couponsAfter(0, 4, 1));
        s.same("nothing has changed", Tell.all(x), before);
        s.due("undoCount", x.undoCount(), 10);
        s.due("the buffer", x.load(10), 1);
        RationOffice y = Towns.full();
        y.audit(0, 0, 99999);
        y.pardon(0);
        y.buy(5, 0, 0, 3);
        y.audit(0, 0, 99999);
        y.pardon(0);
        before = Tell.all(y);
        s.due("FULL", y.deliver(0, 0, 1), FULL);
        s.same("nothing has changed", Tell.all(y), before);
        s.due("undoCount", y.undoCount(), 5);
        fullBuffer();
    }

    private void fullBuffer() {
        RationOffice x = new RationOffice();
        Texts.feed(x, "house a 1;" + " ".repeat(789) + "#");
        s.due("FULL", x.feed(0x3b3b3b3b, 0, 0, 0, 0), FULL);
        s.due("the buffer", x.load(799), 1);
    }

    private void buy() {
        s.section("Promise 56");
        s.says("1 to 9999");
        RationOffice x = Texts.office("group a 99 4 100;group b 99 4 100;swap a b 1;good g a 1 1;house h 9;house i 9;"
            + "shop s g 9999;shop t;set give 999;set take 999;");
        for (int period = 0; period < 4; period++) {
            x.nextPeriod();
            x.trade(1, 0, 0, 999);
        }
        int held = x.coupons(0, 0);
        s.due("1", x.buy(0, 0, 0, 1), held - 1);
        x.undo();
        s.due("9999, with the substitute", x.buy(0, 0, 0, 9999), 0);
        s.due("stock", x.stockOf(0, 0), 0);
        s.due("account", x.accountOf(0, 0), 9999);
        s.says("Returns the number of coupons of the group of the good that the house holds then;");
        RationOffice y = Texts.office("group a 9 1 0;group b 30 1 0;swap a b 2;good g a 2 1;good k b 1 1;house h 1;shop s g 99 "
            + "k 99;");
        s.due("7 of 9", y.buy(0, 0, 0, 1), 7);
        s.due("30 of the other group", y.buy(0, 0, 1, 3), 27);
        s.due("none, with the substitute", y.buy(0, 0, 0, 4), 0);
        s.due("the substitute", y.coupons(0, 1), 25);
        s.due("none, with the substitute alone", y.buy(0, 0, 0, 1), 0);
        s.due("the substitute", y.coupons(0, 1), 21);
    }

    private void buyRefusals() {
        s.says("NOT_FOUND if house, shop or good is not a valid index;");
        RationOffice x = Texts.office("group a 5 1 0;group b 5 1 0;good g a 1 1;good k b 1 1;house h 1;house i 1;shop s g 5;"
            + "shop t g 6;shop u g 5;");
        s.badIndex("house", 2, NOT_FOUND, house -> x.buy(house, 0, 0, 1));
        s.badIndex("shop", 3, NOT_FOUND, shop -> x.buy(0, shop, 0, 1));
        s.badIndex("good", 2, NOT_FOUND, good -> x.buy(0, 0, good, 1));
        s.due("an empty office", new RationOffice().buy(0, 0, 0, 1), NOT_FOUND);
        s.says("BAD_VALUE if units is out of range;");
        s.range("units", 1, 9999, units -> x.buy(0, 0, 1, units));
        s.says("IMPOSSIBLE if the shop is suspended or its stock is less;");
        s.due("6 of 5", x.buy(0, 0, 0, 6), IMPOSSIBLE);
        s.due("1 of 0", x.buy(0, 0, 1, 1), IMPOSSIBLE);
        s.due("5 of 5", x.buy(0, 0, 0, 5), 0);
        x.audit(2, 0, 15);
        s.due("a penalty of 10", x.buy(1, 2, 0, 1), 4);
        x.audit(2, 0, 13);
        s.due("a penalty of 11", x.buy(1, 2, 0, 1), IMPOSSIBLE);
        s.says("LACKING if the house cannot pay; checked in this order.");
        s.due("1 for 0 coupons", x.buy(0, 1, 0, 1), LACKING);
        s.due("5 for 4 coupons", x.buy(1, 1, 0, 5), LACKING);
        s.due("4 for 4 coupons", x.buy(1, 1, 0, 4), 0);
        s.due("too many and too dear", x.buy(1, 1, 0, 6), IMPOSSIBLE);
        s.due("suspended and too dear", x.buy(1, 2, 0, 1), IMPOSSIBLE);
        s.due("bad units and suspended", x.buy(1, 2, 0, 0), BAD_VALUE);
        s.due("bad units and no stock", x.buy(1, 0, 0, 10000), BAD_VALUE);
        s.badIndex("house, bad units", 2, NOT_FOUND, house -> x.buy(house, 2, 0, 0));
        s.badIndex("shop, bad units", 3, NOT_FOUND, shop -> x.buy(0, shop, 0, 10000));
        s.badIndex("good, bad units", 2, NOT_FOUND, good -> x.buy(0, 2, good, -1));
    }

    private void deliver() {
        s.section("Promise 57");
        s.says("1 to 9999");
        RationOffice x = Texts.office("group a 99 4 100;group b 99 4 100;swap a b 1;good g a 1 1;house h 9;house i 9;"
            + "shop s g 9999;set give 999;set take 999;");
        for (int period = 0; period < 4; period++) {
            x.nextPeriod();
            x.trade(1, 0, 0, 999);
        }
        x.buy(0, 0, 0, 9999);
        s.due("9999", x.deliver(0, 0, 9999), 9999);
        s.due("account", x.accountOf(0, 0), 0);
        x.undo();
        s.due("1", x.deliver(0, 0, 1), 1);
        s.says("Returns the stock then;");
        s.due("9998 more", x.deliver(0, 0, 9998), 9999);
        s.due("stock", x.stockOf(0, 0), 9999);
        s.due("delivered", x.deliveredTo(0, 0), 9999);
    }

    private void deliverRefusals() {
        s.says("NOT_FOUND if shop or good is not a valid index;");
        RationOffice x = Texts.office("group a 9 1 0;group b 5 1 0;good g a 2 1;good k b 1 1;house h 3;shop s g 50 k 5;shop t g 5;");
        s.badIndex("shop", 2, NOT_FOUND, shop -> x.deliver(shop, 0, 1));
        s.badIndex("good", 2, NOT_FOUND, good -> x.deliver(0, good, 1));
        s.due("an empty office", new RationOffice().deliver(0, 0, 1), NOT_FOUND);
        s.says("BAD_VALUE if units is out of range;");
        s.range("units", 1, 9999, units -> x.deliver(1, 1, units));
        s.says("LACKING if the account is less than what is handed in;");
        x.buy(0, 0, 0, 5);
        s.due("6 times 2 of 10", x.deliver(0, 0, 6), LACKING);
        s.due("1 of 0 of the other group", x.deliver(0, 1, 1), LACKING);
        s.due("1 times 2 of 0 of the other shop", x.deliver(1, 0, 1), LACKING);
        s.due("5 times 2 of 10", x.deliver(0, 0, 5), 50);
        s.due("1 times 2 of 0", x.deliver(0, 0, 1), LACKING);
        s.says("FULL if the stock would be greater than 99999; checked in this order.");
        x.buy(0, 0, 0, 5);
        x.audit(0, 0, 99999);
        s.due("100000", x.deliver(0, 0, 1), FULL);
        s.due("lacking and full", x.deliver(0, 0, 6), LACKING);
        s.due("bad units and lacking", x.deliver(0, 0, 10000), BAD_VALUE);
        x.audit(0, 0, 99995);
        s.due("100000", x.deliver(0, 0, 5), FULL);
        s.due("99999", x.deliver(0, 0, 4), 99999);
        s.due("100000", x.deliver(0, 0, 1), FULL);
        s.due("it is suspended all the same", x.isSuspended(0), true);
        s.badIndex("shop, bad units", 2, NOT_FOUND, shop -> x.deliver(shop, 0, 0));
        s.badIndex("good, bad units", 2, NOT_FOUND, good -> x.deliver(0, good, 10000));
    }

    private void trade() {
        s.section("Promise 58");
        s.says("1 to 999");
        RationOffice x = Texts.office("group a 99 4 0;group b 5 1 0;house h 9;house i 9;set give 999;set take 999;");
        x.nextPeriod();
        s.due("1", x.trade(0, 1, 0, 1), 1781);
        x.undo();
        s.due("999", x.trade(0, 1, 0, 999), 1782 - 999);
        s.due("taken", x.coupons(1, 0), 1782 + 999);
        s.says("Returns the number of coupons of the group that from holds then;");
        s.due("given back", x.trade(1, 0, 0, 99), 1782 + 999 - 99);
        s.due("all of the other group", x.trade(1, 0, 1, 45), 0);
    }

    private void tradeRefusals() {
        s.says("NOT_FOUND if from, to or group is not a valid index or from and to are the same;");
        RationOffice x = Texts.office("group a 9 1 0;group b 9 1 0;house h 1;house i 1;house j 1;set give 6;set take 8;");
        s.badIndex("from", 3, NOT_FOUND, from -> x.trade(from, 0, 0, 1));
        s.badIndex("to", 3, NOT_FOUND, to -> x.trade(0, to, 0, 1));
        s.badIndex("group", 2, NOT_FOUND, group -> x.trade(0, 1, group, 1));
        s.badIndex("from and to", 3, NOT_FOUND, house -> x.trade(house, house, 0, 1));
        for (int house = 0; house < 3; house++) {
            s.due("the same", x.trade(house, house, 0, 1), NOT_FOUND);
        }
        s.due("an empty office", new RationOffice().trade(0, 1, 0, 1), NOT_FOUND);
        s.says("BAD_VALUE if count is out of range;");
        s.due("0", x.trade(0, 1, 0, 0), BAD_VALUE);
        s.due("-1", x.trade(0, 1, 0, -1), BAD_VALUE);
        s.due("1000", x.trade(0, 1, 0, 1000), BAD_VALUE);
        s.due("the greatest", x.trade(0, 1, 0, Integer.MAX_VALUE), BAD_VALUE);
        s.due("the least", x.trade(0, 1, 0, Integer.MIN_VALUE), BAD_VALUE);
        s.says("LACKING if from holds fewer;");
        s.due("10 of 9", x.trade(0, 1, 0, 10), LACKING);
        s.due("999 of 9", x.trade(0, 1, 0, 999), LACKING);
        s.due("9 of 9", x.trade(0, 1, 0, 9), IMPOSSIBLE);
        s.says("IMPOSSIBLE if GIVE or TAKE would be exceeded; checked in this order.");
        s.due("7 given of 6", x.trade(0, 1, 0, 7), IMPOSSIBLE);
        s.due("6 given of 6", x.trade(0, 1, 0, 6), 3);
        s.due("7 given of 6", x.trade(0, 1, 1, 1), IMPOSSIBLE);
        s.due("9 taken of 8", x.trade(2, 1, 1, 3), IMPOSSIBLE);
        s.due("8 taken of 8", x.trade(2, 1, 1, 2), 7);
        s.due("9 taken of 8", x.trade(2, 1, 0, 1), IMPOSSIBLE);
        s.due("lacking and exceeded", x.trade(0, 1, 0, 4), LACKING);
        s.due("bad count, lacking and exceeded", x.trade(0, 1, 0, 1000), BAD_VALUE);
        s.due("the same, bad count", x.trade(0, 0, 0, 0), NOT_FOUND);
        s.badIndex("group, bad count", 2, NOT_FOUND, group -> x.trade(0, 1, group, 1000));
        s.badIndex("from, bad count", 3, NOT_FOUND, from -> x.trade(from, 0, 0, 0));
        s.badIndex("to, bad count", 3, NOT_FOUND, to -> x.trade(0, to, 0, -1));
        x.setSetting(RationOffice.GIVE, 5);
        s.due("more given than GIVE", x.trade(0, 2, 0, 1), IMPOSSIBLE);
        x.setSetting(RationOffice.GIVE, 999);
        x.setSetting(RationOffice.TAKE, 7);
        s.due("more taken than TAKE", x.trade(0, 1, 0, 1), IMPOSSIBLE);
        s.due("another one takes", x.trade(0, 2, 0, 1), 2);
    }

    private void audit() {
        s.section("Promise 59");
        s.says("0 to 99999");
        RationOffice x = Texts.office("group a 9 1 0;good g a 2 1;good k a 20 1;shop s g 5;shop t;");
        s.due("0", x.audit(0, 0, 0), 10);
        s.due("99999", x.audit(1, 0, 99999), 199998);
        s.says("Returns the penalty then;");
        s.due("the same count", x.audit(0, 0, 0), 10);
        s.due("3 more", x.audit(0, 0, 3), 16);
        s.due("another good", x.audit(0, 1, 1), 36);
        s.due("penaltyOf", x.penaltyOf(0), 36);
        s.says("NOT_FOUND if shop or good is not a valid index;");
        s.badIndex("shop", 2, NOT_FOUND, shop -> x.audit(shop, 0, 0));
        s.badIndex("good", 2, NOT_FOUND, good -> x.audit(0, good, 0));
        s.due("an empty office", new RationOffice().audit(0, 0, 0), NOT_FOUND);
        s.says("BAD_VALUE if counted is out of range; checked in this order.");
        s.range("counted", 0, 99999, counted -> x.audit(0, 0, counted));
        s.badIndex("shop, bad count", 2, NOT_FOUND, shop -> x.audit(shop, 0, -1));
        s.badIndex("good, bad count", 2, NOT_FOUND, good -> x.audit(0, good, 100000));
    }

    private void pardon() {
        s.section("Promise 60");
        s.says("Sets the penalty of a shop to 0.");
        RationOffice x = Texts.office("group a 9 1 0;good g a 1 1;shop s;shop t;");
        x.audit(0, 0, 99999);
        x.audit(1, 0, 5);
        s.due("pardon", x.pardon(0), 99999);
        s.due("penalty", x.penaltyOf(0), 0);
        s.due("the other one's", x.penaltyOf(1), 5);
        s.due("of 0", x.pardon(0), 0);
        s.due("the stock stays", x.stockOf(0, 0), 99999);
        s.says("Returns the previous penalty; NOT_FOUND if shop is not a valid index.");
        s.due("the other one's", x.pardon(1), 5);
        s.badIndex("shop", 2, NOT_FOUND, shop -> x.pardon(shop));
        s.due("an empty office", new RationOffice().pardon(0), NOT_FOUND);
    }

    private void nextPeriod() {
        s.section("Promise 61");
        s.says("Returns the number of coupons that lapsed, of all houses and groups together.");
        s.due("no houses and groups", new RationOffice().nextPeriod(), 0);
        s.due("no houses", Texts.office("group a 9 1 0;").nextPeriod(), 0);
        s.due("no groups", Texts.office("house h 9;").nextPeriod(), 0);
        RationOffice x = Towns.used();
        for (int period = 0; period < 6; period++) {
            int before = x.lapsed(0) + x.lapsed(1) + x.lapsed(2) + x.lapsed(3);
            int answer = x.nextPeriod();
            s.due("lapsed of all groups", x.lapsed(0) + x.lapsed(1) + x.lapsed(2) + x.lapsed(3) - before, answer);
        }
        RationOffice y = Texts.office("group a 99 1 0;group b 99 1 0;group c 99 1 0;group d 99 1 0;house h 9;house i 9;house j 9;"
            + "house k 9;house l 9;house m 9;");
        s.due("all that can be", y.nextPeriod(), 4 * 6 * 891);
        RationOffice z = Texts.office("group a 1 1 50;house h 1;house i 1;house j 1;");
        s.due("rounded in each house", z.nextPeriod(), 3);
    }

    private void setRation() {
        s.section("Promise 62");
        s.says("Setting the value that it already has is also a change; likewise below.");
        RationOffice x = Texts.office("group a 6 1 0;group b 7 1 0;house h 3;");
        s.due("6 again", x.setRation(0, 6), 6);
        s.due("undoCount", x.undoCount(), 1);
        s.due("size 3 again", x.setSize(0, 3), 3);
        s.due("undoCount", x.undoCount(), 2);
        s.due("GIVE again", x.setSetting(RationOffice.GIVE, 20), 20);
        s.due("undoCount", x.undoCount(), 3);
        s.due("undo", x.undo(), 2);
        s.says("0 to 99");
        s.due("0", x.setRation(0, 0), 6);
        s.due("99", x.setRation(0, 99), 0);
        s.due("ration", x.groupProperty(0, 0), 99);
        s.due("the other one's", x.groupProperty(1, 0), 7);
        s.says("Returns the previous ration; NOT_FOUND if group is not a valid index (checked first);");
        s.due("99", x.setRation(0, 5), 99);
        s.badIndex("group", 2, NOT_FOUND, group -> x.setRation(group, 1));
        s.badIndex("group, bad ration", 2, NOT_FOUND, group -> x.setRation(group, 100));
        s.due("an empty office", new RationOffice().setRation(0, 100), NOT_FOUND);
        s.says("BAD_VALUE if ration is out of range.");
        s.range("ration", 0, 99, ration -> x.setRation(1, ration));
    }

    private void setSize() {
        s.section("Promise 63");
        s.says("1 to 9");
        RationOffice x = Texts.office("group a 6 1 0;house h 3;house i 4;");
        s.due("1", x.setSize(0, 1), 3);
        s.due("9", x.setSize(0, 9), 1);
        s.due("size", x.sizeOf(0), 9);
        s.due("the other one's", x.sizeOf(1), 4);
        s.due("the coupons stay", x.coupons(0, 0), 18);
        s.says("Returns the previous size; NOT_FOUND if house is not a valid index (checked first);");
        s.due("9", x.setSize(0, 9), 9);
        s.badIndex("house", 2, NOT_FOUND, house -> x.setSize(house, 1));
        s.badIndex("house, bad size", 2, NOT_FOUND, house -> x.setSize(house, 0));
        s.due("an empty office", new RationOffice().setSize(0, 10), NOT_FOUND);
        s.says("BAD_VALUE if size is out of range.");
        s.range("size", 1, 9, size -> x.setSize(1, size));
    }

    private void setSetting() {
        s.section("Promise 64");
        s.says("What was given and taken before stays as it is, even if it is more than the new limit.");
        RationOffice x = Texts.office("group a 9 1 0;house h 2;house i 2;");
        x.trade(0, 1, 0, 12);
        s.due("GIVE", x.setSetting(RationOffice.GIVE, 11), 20);
        s.due("TAKE", x.setSetting(RationOffice.TAKE, 0), 20);
        s.due("given", x.givenBy(0), 12);
        s.due("taken", x.takenBy(1), 12);
        s.due("coupons", x.coupons(1, 0), 30);
        s.says("Returns the previous value; BAD_VALUE if setting is none of these or value is out of its range.");
        s.badIndex("setting", 3, BAD_VALUE, setting -> x.setSetting(setting, 1));
        s.range("GIVE", 0, 999, value -> x.setSetting(RationOffice.GIVE, value));
        s.range("TAKE", 0, 999, value -> x.setSetting(RationOffice.TAKE, value));
        s.range("TOLERANCE", 0, 9999, value -> x.setSetting(RationOffice.TOLERANCE, value));
        s.due("the previous GIVE", x.setSetting(RationOffice.GIVE, 0), 999);
        s.due("the previous TAKE", x.setSetting(RationOffice.TAKE, 0), 999);
        s.due("the previous TOLERANCE", x.setSetting(RationOffice.TOLERANCE, 0), 9999);
    }

    private void undo() {
        s.section("Promise 65");
        s.says("Undoes the latest change that is kept.");
        RationOffice x = Texts.office("group a 6 1 0;house h 3;");
        x.setRation(0, 1);
        x.nextPeriod();
        x.setRation(0, 2);
        s.due("undo", x.undo(), 2);
        s.due("ration", x.groupProperty(0, 0), 1);
        s.due("period", x.period(), 1);
        s.due("undo", x.undo(), 1);
        s.due("period", x.period(), 0);
        x.setRation(0, 3);
        s.due("undo behind a new change", x.undo(), 1);
        s.due("ration", x.groupProperty(0, 0), 1);
        s.due("undo", x.undo(), 0);
        s.due("ration", x.groupProperty(0, 0), 6);
        s.says("Returns the number of changes that can still be undone; NOT_FOUND if there is none to undo.");
        s.due("none", x.undo(), NOT_FOUND);
        s.due("none again", x.undo(), NOT_FOUND);
        s.due("ration", x.groupProperty(0, 0), 6);
        s.due("a new object", new RationOffice().undo(), NOT_FOUND);
        for (int change = 0; change < 12; change++) {
            x.nextPeriod();
        }
        for (int left = 9; left >= 0; left--) {
            s.due("undo", x.undo(), left);
        }
        s.due("the eleventh", x.undo(), NOT_FOUND);
        s.due("period", x.period(), 2);
    }

    /** The largest numbers that so many calls can come to. */
    private void lastCall() {
        s.section("What it is");
        s.says("An object is used for at most 512 calls after it has been made; what later calls answer is free.");
        RationOffice x = Texts.office("group a 99 4 100;good g a 20 99;house h 9;shop s;");
        int calls = 4;
        int penalty = 0;
        while (calls < 511) {
            penalty += 99999 * 20;
            x.audit(0, 0, calls % 2 == 0 ? 99999 : 0);
            calls++;
        }
        s.due("the 512th call", x.penaltyOf(0), penalty);
        s.due("it is no overflow", penalty > 1000000000, true);
        RationOffice y = Texts.office("group a 99 4 100;group b 99 1 0;house h 9;house i 9;house j 9;house k 9;house l 9;house m 9;");
        Towns.nextPeriods(y, 500);
        s.due("issued", y.issued(0), 501 * 6 * 891);
        s.due("lapsed", y.lapsed(1), 500 * 6 * 891);
        s.due("held", y.held(0), 5 * 6 * 891);
        s.due("period", y.period(), 500);
        s.due("spread", y.spreadOf(0), 0);
    }
}
