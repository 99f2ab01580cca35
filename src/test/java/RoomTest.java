import java.lang.management.ManagementFactory;

/** Only a constructor may make objects: all calls of a run share one room. */
public final class RoomTest {
    private static final Check check = new Check();
    private static final long FEW_BYTES = 20000;
    private static final String TEXT = "group a 44 4 100;group b 44 1 0;swap b a 1;good g a 1 9;good h a 2 8;good i b 3 7;"
        + "house j 9;house k 1;shop s g 9999 h 9999 i 9999;";

    public static void main(String[] args) {
        check.begin("room");
        com.sun.management.ThreadMXBean threads = (com.sun.management.ThreadMXBean) ManagementFactory.getThreadMXBean();
        round(Texts.office(TEXT));
        RationOffice x = Texts.office(TEXT);
        long before = threads.getCurrentThreadAllocatedBytes();
        long sum = round(x);
        long made = threads.getCurrentThreadAllocatedBytes() - before;
        check.due("bytes made by 512 calls, " + made + ", are few", made <= FEW_BYTES, true);
        check.due("the calls did their work", sum != 0, true);
        check.finish();
    }

    private static long round(RationOffice x) {
        long sum = 0;
        for (int times = 0; times < 25; times++) {
            sum += x.basketValue(0, 0) + x.basketUnits(1, 0, 1) + x.basketLeft(1, 0, 0) + x.buy(0, 0, 2, 5);
            sum += x.deliver(0, 2, 1) + x.trade(1, 0, 0, 1) + x.audit(0, 0, 9999) + x.pardon(0) + x.nextPeriod();
            sum += x.undo() + x.undo() + x.couponsAfter(0, 0, 50) + x.supplyPeriods(0, 1, 3) + x.helpers(0, 0, 400);
            sum += x.setSize(0, 9) + x.setRation(0, 44) + x.setSetting(1, 20);
            sum += x.feed(0x686f7573, 0x65207120, 0x333b2020, 0x20202020, 0x20202020) + x.load(9);
        }
        return sum;
    }
}
