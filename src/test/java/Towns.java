/** Offices that several tests use. */
final class Towns {
    /** As many of each as may be; c has no substitute, and d nothing at all to do with the others. */
    static final String FULL = "group a 5 1 50;group b 4 2 0;group c 3 3 100;group d 2 4 33;swap a b 2;swap b c 3;"
        + "good ga a 1 3;good gb a 2 5;good gc b 1 2;good gd c 3 9;good ge d 1 1;good gf d 20 99;"
        + "house ha 1;house hb 2;house hc 3;house hd 4;house he 5;house hf 9;"
        + "shop sa ga 50 gb 20 gc 30 gd 5;shop sb ga 50;shop sc ge 100 gf 1;shop sd;";

    private Towns() {
    }

    static RationOffice full() {
        return Texts.office(FULL);
    }

    /** Something of everything has happened to it: bought, delivered, traded, audited, and two periods ended. */
    static RationOffice used() {
        RationOffice x = full();
        x.nextPeriod();
        x.nextPeriod();
        x.buy(5, 0, 0, 20);
        x.buy(3, 0, 2, 9);
        x.deliver(0, 1, 3);
        x.trade(4, 1, 2, 5);
        x.trade(2, 0, 0, 3);
        x.audit(2, 4, 95);
        x.audit(3, 5, 1);
        return x;
    }

    /** A group of each life from 1 to 4, with a carry of so many per cent, and houses of 1 and 7 persons. */
    static RationOffice lives(int carry) {
        return Texts.office("group a 10 1 " + carry + ";group b 10 2 " + carry + ";group c 10 3 " + carry
            + ";group d 10 4 " + carry + ";good ga a 1 1;good gb b 1 1;good gc c 1 1;good gd d 1 1;house h 1;house i 7;"
            + "shop s ga 9999 gb 9999 gc 9999 gd 9999;set give 999;set take 999;");
    }

    static void nextPeriods(RationOffice x, int count) {
        for (int period = 0; period < count; period++) {
            x.nextPeriod();
        }
    }

    /** The coupons by the periods that they have left, carried ones first: "5 0 3 0 0". */
    static String places(RationOffice x, int house, int group) {
        StringBuilder text = new StringBuilder();
        for (int left = 0; left < 5; left++) {
            text.append(left == 0 ? "" : " ").append(x.couponsWith(house, group, left));
        }
        return text.toString();
    }
}
