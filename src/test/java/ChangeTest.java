/** Promises 56 to 65 and 9: the changes, the order of their refusals, and undo. */
public final class ChangeTest {
    private static final Check check = new Check();
    private static final int NOT_FOUND = RationOffice.NOT_FOUND;
    private static final int BAD_VALUE = RationOffice.BAD_VALUE;
    private static final int FULL = RationOffice.FULL;
    private static final int LACKING = RationOffice.LACKING;
    private static final int IMPOSSIBLE = RationOffice.IMPOSSIBLE;
    private static final int[] BAD = {-1, 6, 4, Integer.MAX_VALUE, Integer.MIN_VALUE};

    public static void main(String[] args) {
        buy();
        buyOrder();
        deliver();
        trade();
        tradeOrder();
        audit();
        pardon();
        nextPeriod();
        setRation();
        setSize();
        setSetting();
        undo();
        undoEach();
        refusalsKeepNothing();
        longLife();
        check.finish();
    }

    /** Issued: h 12, 4 and i 18, 6 of a, b. */
    private static RationOffice town() {
        return Texts.office("group a 6 2 50;group b 2 1 0;swap b a 4;good g a 3 1;good k b 1 1;house h 2;house i 3;"
            + "shop s g 9 k 9;shop t;set give 5;set take 7;");
    }

    private static void buy() {
        check.begin("56 buy");
        RationOffice x = town();
        check.due("buy", x.buy(0, 0, 0, 2), 6);
        check.due("stock", x.stockOf(0, 0), 7);
        check.due("account", x.accountOf(0, 0), 6);
        check.due("spent", x.spent(0), 6);
        check.due("sold", x.soldBy(0, 0), 2);
        check.due("buy with the substitute", x.buy(0, 0, 1, 5), 0);
        check.due("coupons of the substitute", x.coupons(0, 0), 2);
        check.due("account for the good's group", x.accountOf(0, 1), 5);
        check.due("account for the substitute", x.accountOf(0, 0), 6);
        check.due("spent of the good's group", x.spent(1), 4);
        check.due("spent of the substitute", x.spent(0), 10);
        check.due("buy all with the substitute", x.buy(0, 0, 1, 1), LACKING);
        x.undo();
        x.undo();
        check.due("undone", x.coupons(0, 0) * 100 + x.coupons(0, 1), 1204);
        x.nextPeriod();
        x.nextPeriod();
        check.due("carried, 1 left, 2 left", places(x, 0, 0), 61212);
        x.buy(0, 0, 0, 1);
        check.due("carried ones first", places(x, 0, 0), 31212);
        x.buy(0, 0, 0, 3);
        check.due("then those with 1 left", places(x, 0, 0), 612);
        x.buy(0, 0, 0, 3);
        check.due("then those with 2 left", places(x, 0, 0), 9);
        check.due("the last ones", x.buy(0, 0, 0, 2), 3);
    }

    private static int places(RationOffice x, int house, int group) {
        return x.couponsWith(house, group, 0) * 10000 + x.couponsWith(house, group, 1) * 100
            + x.couponsWith(house, group, 2);
    }

    private static void buyOrder() {
        check.begin("56 buy, refusals");
        RationOffice x = town();
        for (int bad : BAD) {
            check.due("house", x.buy(bad, 0, 0, 0), NOT_FOUND);
            check.due("shop", x.buy(0, bad, 0, 0), NOT_FOUND);
            check.due("good", x.buy(0, 0, bad, 0), NOT_FOUND);
        }
        check.due("house 2", x.buy(2, 0, 0, 1), NOT_FOUND);
        check.due("shop 2", x.buy(0, 2, 0, 1), NOT_FOUND);
        check.due("good 2", x.buy(0, 0, 2, 1), NOT_FOUND);
        check.due("0 units", x.buy(0, 1, 0, 0), BAD_VALUE);
        check.due("10000 units", x.buy(0, 1, 0, 10000), BAD_VALUE);
        check.due("9999 units", x.buy(0, 0, 0, 9999), IMPOSSIBLE);
        check.due("less stock, too dear", x.buy(0, 0, 0, 10), IMPOSSIBLE);
        check.due("too dear", x.buy(0, 0, 0, 5), LACKING);
        check.due("just not too dear", x.buy(0, 0, 0, 4), 0);
        x.audit(0, 0, 1);
        check.due("suspended, too dear", x.buy(0, 0, 0, 1), IMPOSSIBLE);
        check.due("suspended, 0 units", x.buy(0, 0, 0, 0), BAD_VALUE);
        check.due("changes", x.undoCount(), 2);
    }

    private static void deliver() {
        check.begin("57 deliver");
        RationOffice x = town();
        for (int bad : BAD) {
            check.due("shop", x.deliver(bad, 0, 0), NOT_FOUND);
            check.due("good", x.deliver(0, bad, 0), NOT_FOUND);
        }
        check.due("shop 2", x.deliver(2, 0, 1), NOT_FOUND);
        check.due("good 2", x.deliver(0, 2, 1), NOT_FOUND);
        check.due("0 units", x.deliver(0, 0, 0), BAD_VALUE);
        check.due("10000 units", x.deliver(0, 0, 10000), BAD_VALUE);
        check.due("9999 units", x.deliver(0, 0, 9999), LACKING);
        x.buy(0, 0, 0, 3);
        check.due("another shop's account", x.deliver(1, 0, 1), LACKING);
        check.due("one too many", x.deliver(0, 0, 4), LACKING);
        check.due("deliver", x.deliver(0, 0, 2), 8);
        check.due("account", x.accountOf(0, 0), 3);
        check.due("delivered", x.deliveredTo(0, 0), 2);
        check.due("sold", x.soldBy(0, 0), 3);
        x.audit(0, 0, 99999);
        check.due("full", x.deliver(0, 0, 1), FULL);
        check.due("lacking before full", x.deliver(0, 0, 2), LACKING);
        x.audit(0, 0, 99998);
        check.due("to the brim, though suspended", x.deliver(0, 0, 1), 99999);
        check.due("changes", x.undoCount(), 5);
    }

    private static void trade() {
        check.begin("58 trade");
        RationOffice x = town();
        x.nextPeriod();
        x.nextPeriod();
        check.due("before", places(x, 1, 0), 91818);
        x.buy(1, 0, 0, 2);
        check.due("trade", x.trade(1, 0, 0, 5), 34);
        check.due("taken from carried and 1 left", places(x, 1, 0), 1618);
        check.due("they stay as they are", places(x, 0, 0), 91412);
        check.due("given", x.givenBy(1), 5);
        check.due("taken", x.takenBy(0), 5);
        check.due("spent nothing", x.spent(0), 6);
        check.due("held", x.held(0), 30 + 39);
    }

    private static void tradeOrder() {
        check.begin("58 trade, refusals");
        RationOffice x = town();
        for (int bad : BAD) {
            check.due("from", x.trade(bad, 0, 0, 0), NOT_FOUND);
            check.due("to", x.trade(0, bad, 0, 0), NOT_FOUND);
            check.due("group", x.trade(0, 1, bad, 0), NOT_FOUND);
        }
        check.due("house 2", x.trade(0, 2, 0, 1), NOT_FOUND);
        check.due("house 2", x.trade(2, 0, 0, 1), NOT_FOUND);
        check.due("group 2", x.trade(0, 1, 2, 1), NOT_FOUND);
        check.due("the same", x.trade(1, 1, 0, 0), NOT_FOUND);
        check.due("0", x.trade(0, 1, 0, 0), BAD_VALUE);
        check.due("1000", x.trade(0, 1, 0, 1000), BAD_VALUE);
        check.due("999", x.trade(0, 1, 0, 999), LACKING);
        check.due("lacking, more than GIVE", x.trade(0, 1, 0, 13), LACKING);
        check.due("more than GIVE", x.trade(0, 1, 0, 6), IMPOSSIBLE);
        check.due("GIVE", x.trade(0, 1, 0, 5), 7);
        check.due("more than GIVE of all groups", x.trade(0, 1, 1, 1), IMPOSSIBLE);
        x.setSetting(RationOffice.GIVE, 999);
        check.due("more than TAKE of all groups", x.trade(0, 1, 1, 3), IMPOSSIBLE);
        check.due("TAKE", x.trade(0, 1, 1, 2), 2);
        check.due("the other way", x.trade(1, 0, 0, 7), 16);
        x.setSetting(RationOffice.TAKE, 0);
        check.due("more taken than TAKE", x.trade(0, 1, 0, 1), IMPOSSIBLE);
        x.nextPeriod();
        x.setSetting(RationOffice.TAKE, 7);
        check.due("in the next period", x.trade(0, 1, 0, 7) >= 0, true);
    }

    private static void audit() {
        check.begin("59 audit");
        RationOffice x = town();
        for (int bad : BAD) {
            check.due("shop", x.audit(bad, 0, -1), NOT_FOUND);
            check.due("good", x.audit(0, bad, -1), NOT_FOUND);
        }
        check.due("shop 2", x.audit(2, 0, 1), NOT_FOUND);
        check.due("good 2", x.audit(0, 2, 1), NOT_FOUND);
        check.due("-1", x.audit(0, 0, -1), BAD_VALUE);
        check.due("100000", x.audit(0, 0, 100000), BAD_VALUE);
        check.due("less", x.audit(0, 0, 7), 6);
        check.due("stock", x.stockOf(0, 0), 7);
        check.due("more", x.audit(0, 0, 8), 9);
        check.due("the same", x.audit(0, 0, 8), 9);
        check.due("another good's rate", x.audit(0, 1, 10), 10);
        check.due("as much as TOLERANCE", x.isSuspended(0), false);
        check.due("0", x.audit(0, 1, 0), 20);
        check.due("suspended", x.isSuspended(0), true);
        check.due("99999", x.audit(1, 0, 99999), 299997);
        check.due("changes", x.undoCount(), 6);
    }

    private static void pardon() {
        check.begin("60 pardon");
        RationOffice x = town();
        x.audit(0, 0, 0);
        x.audit(1, 0, 5);
        for (int bad : BAD) {
            check.due("shop", x.pardon(bad), NOT_FOUND);
        }
        check.due("shop 2", x.pardon(2), NOT_FOUND);
        check.due("pardon", x.pardon(0), 27);
        check.due("penalty", x.penaltyOf(0), 0);
        check.due("not suspended", x.isSuspended(0), false);
        check.due("the other shop", x.penaltyOf(1), 15);
        check.due("again", x.pardon(0), 0);
        check.due("changes", x.undoCount(), 4);
    }

    private static void nextPeriod() {
        check.begin("61 nextPeriod");
        RationOffice x = town();
        check.due("b lapses", x.nextPeriod(), 10);
        check.due("period", x.period(), 1);
        check.due("a, b", x.coupons(0, 0) * 100 + x.coupons(0, 1), 2404);
        check.due("lapsed", x.lapsed(0) * 100 + x.lapsed(1), 10);
        check.due("half of a lapses", x.nextPeriod(), 25);
        check.due("a", places(x, 1, 0), 91818);
        check.due("carried ones too", x.nextPeriod(), 40);
        check.due("lapsed", x.lapsed(0) * 100 + x.lapsed(1), 4530);
        check.due("issued", x.issued(0), 120);
        x.setRation(0, 1);
        x.setSize(1, 9);
        x.nextPeriod();
        check.due("the new ration and size", places(x, 1, 0), 91809);
        check.due("issued", x.issued(0), 131);
        RationOffice y = new RationOffice();
        check.due("an empty office", y.nextPeriod(), 0);
        check.due("its period", y.period(), 1);
        RationOffice z = Texts.office("group a 1 1 99;group b 3 1 33;group c 7 1 50;house h 1;");
        check.due("rounded down in each group", z.nextPeriod(), 1 + 3 + 4);
    }

    private static void setRation() {
        check.begin("62 setRation");
        RationOffice x = town();
        for (int bad : BAD) {
            check.due("group", x.setRation(bad, -1), NOT_FOUND);
        }
        check.due("group 2", x.setRation(2, 1), NOT_FOUND);
        check.due("-1", x.setRation(0, -1), BAD_VALUE);
        check.due("100", x.setRation(0, 100), BAD_VALUE);
        check.due("99", x.setRation(0, 99), 6);
        check.due("0", x.setRation(0, 0), 99);
        check.due("0 again", x.setRation(0, 0), 0);
        check.due("ration", x.groupProperty(0, 0), 0);
        check.due("coupons", x.coupons(0, 0), 12);
        check.due("changes", x.undoCount(), 3);
    }

    private static void setSize() {
        check.begin("63 setSize");
        RationOffice x = town();
        for (int bad : BAD) {
            check.due("house", x.setSize(bad, 0), NOT_FOUND);
        }
        check.due("house 2", x.setSize(2, 1), NOT_FOUND);
        check.due("0", x.setSize(0, 0), BAD_VALUE);
        check.due("10", x.setSize(0, 10), BAD_VALUE);
        check.due("9", x.setSize(0, 9), 2);
        check.due("1", x.setSize(0, 1), 9);
        check.due("1 again", x.setSize(0, 1), 1);
        check.due("size", x.sizeOf(0), 1);
        check.due("coupons", x.coupons(0, 0), 12);
        check.due("changes", x.undoCount(), 3);
    }

    private static void setSetting() {
        check.begin("64 setSetting");
        RationOffice x = town();
        int[] first = {5, 7, 10};
        int[] most = {999, 999, 9999};
        for (int setting = 0; setting < 3; setting++) {
            check.due("-1", x.setSetting(setting, -1), BAD_VALUE);
            check.due("too much", x.setSetting(setting, most[setting] + 1), BAD_VALUE);
            check.due("most", x.setSetting(setting, most[setting]), first[setting]);
            check.due("0", x.setSetting(setting, 0), most[setting]);
            check.due("0 again", x.setSetting(setting, 0), 0);
            check.due("getSetting", x.getSetting(setting), 0);
        }
        for (int bad : new int[] {-1, 3, Integer.MAX_VALUE, Integer.MIN_VALUE}) {
            check.due("setting " + bad, x.setSetting(bad, 1), BAD_VALUE);
        }
        check.due("changes", x.undoCount(), 9);
        RationOffice y = town();
        y.trade(0, 1, 0, 4);
        y.setSetting(RationOffice.GIVE, 1);
        check.due("given stays", y.givenBy(0), 4);
    }

    private static void undo() {
        check.begin("9, 65 undo");
        RationOffice x = town();
        check.due("none", x.undo(), NOT_FOUND);
        for (int ration = 20; ration < 35; ration++) {
            x.setRation(0, ration);
            check.due("undoCount", x.undoCount(), Math.min(10, ration - 19));
        }
        for (int kept = 9; kept >= 0; kept--) {
            check.due("undo", x.undo(), kept);
            check.due("undoCount", x.undoCount(), kept);
            check.due("ration", x.groupProperty(0, 0), 24 + kept);
        }
        check.due("none is kept", x.undo(), NOT_FOUND);
        check.due("ration", x.groupProperty(0, 0), 24);
        x.setRation(0, 1);
        x.setRation(0, 2);
        x.undo();
        x.setRation(0, 3);
        check.due("undoCount", x.undoCount(), 2);
        x.undo();
        check.due("before 3", x.groupProperty(0, 0), 1);
        x.undo();
        check.due("before 1", x.groupProperty(0, 0), 24);
    }

    private static void undoEach() {
        check.begin("65 undo, each change");
        for (int kind = 0; kind < 9; kind++) {
            RationOffice x = town();
            x.nextPeriod();
            x.trade(1, 0, 0, 1);
            x.buy(0, 0, 0, 2);
            x.audit(0, 1, 8);
            Texts.feed(x, "house z 1;");
            String before = Tell.all(x);
            int count = x.undoCount();
            check.due("change " + kind, change(x, kind) >= 0, true);
            check.due("it is seen, " + kind, Tell.all(x).equals(before), false);
            check.due("undoCount " + kind, x.undoCount(), count + 1);
            check.due("undo " + kind, x.undo(), count);
            check.due("all as before, " + kind, Tell.all(x).equals(before), true);
            check.due("the buffer stays, " + kind, x.load(10), 1);
        }
    }

    private static int change(RationOffice x, int kind) {
        switch (kind) {
            case 0:
                return x.buy(0, 0, 1, 5);
            case 1:
                return x.deliver(0, 0, 1);
            case 2:
                return x.trade(1, 0, 1, 2);
            case 3:
                return x.audit(0, 1, 9);
            case 4:
                return x.pardon(0);
            case 5:
                return x.nextPeriod();
            case 6:
                return x.setRation(1, 9);
            case 7:
                return x.setSize(1, 9);
            default:
                return x.setSetting(RationOffice.TOLERANCE, 9);
        }
    }

    private static void refusalsKeepNothing() {
        check.begin("56 to 65, refusals change nothing");
        RationOffice x = town();
        x.pardon(0);
        String before = Tell.all(x);
        x.buy(0, 0, 0, 0);
        x.buy(0, 0, 0, 9999);
        x.buy(0, 0, 1, 9);
        x.deliver(0, 0, 1);
        x.trade(0, 1, 0, 6);
        x.trade(0, 0, 0, 1);
        x.audit(0, 0, -1);
        x.pardon(2);
        x.setRation(0, 100);
        x.setSize(0, 0);
        x.setSetting(3, 0);
        x.load(-1);
        Texts.load(x, "house q");
        check.due("all as before", Tell.all(x).equals(before), true);
        check.due("undoCount", x.undoCount(), 1);
    }

    /** 512 calls with the largest numbers, which must stay in their range. */
    private static void longLife() {
        check.begin("59, 61 many calls");
        RationOffice x = Texts.office("group a 99 4 100;good g a 20 99;house h 9;shop s;");
        long penalty = 0;
        for (int call = 0; call < 250; call++) {
            penalty += 99999L * 20;
            check.due("audit", x.audit(0, 0, call % 2 == 0 ? 99999 : 0), penalty);
        }
        for (int period = 1; period <= 250; period++) {
            x.nextPeriod();
        }
        check.due("issued", x.issued(0), 251 * 891);
        check.due("held", x.held(0), 5 * 891);
        check.due("lapsed", x.lapsed(0), 246 * 891);
    }
}
