import java.lang.management.ManagementFactory;

/** A new object takes little of the room, and the calls none. */
public final class RoomTest {
    private static final Check CHECK = new Check("RoomTest");
    private static final com.sun.management.ThreadMXBean BEAN =
        (com.sun.management.ThreadMXBean) ManagementFactory.getThreadMXBean();

    private static long taken() {
        return BEAN.getThreadAllocatedBytes(Thread.currentThread().getId());
    }

    public static void main(String[] args) {
        MeetHouse first = new MeetHouse();
        calls(first);
        long before = taken();
        MeetHouse house = new MeetHouse();
        long made = taken() - before;
        CHECK.holds("a new object takes " + made + " bytes", made > 0 && made < 1000000);
        before = taken();
        for (int time = 0; time < 6; time++) {
            calls(house);
        }
        long more = taken() - before;
        CHECK.holds("its calls take " + more + " bytes", more < 5000);
        CHECK.due("the same calls, the same answers", house.digest(), first.digest());
        CHECK.end();
    }

    /** Each call, the dearest ones with much to do. */
    private static void calls(MeetHouse x) {
        x.length(54321);
        x.exchange(54321, 4);
        x.inverse(25134);
        x.orders(5, 5);
        x.step(4321, 2, 3);
        x.blank(0);
        for (int letter = 1; letter <= 10000; letter *= 10) {
            x.add(0, 1, letter);
        }
        for (int power = 1; power < 5; power++) {
            x.product(power, power - 1, 0);
        }
        x.product(5, 3, 3);
        x.polynomial(6, 12354);
        x.part(4, 54321);
        x.constant(12543, 21543, 54321);
        x.turned(7, 3, 2);
        x.difference(8, 4, 2);
        x.sum(9, 4, 3, 5);
        x.same(3, 4);
        x.terms(4);
        x.exponents(4, 3);
        x.number(4, 11111);
        x.lose(9);
        x.begin(4, 4);
        for (int at = 0; at < 16; at++) {
            x.condition(1000);
        }
        x.meeting();
        x.strip(4, 4, 2100, 4, 2);
        x.fillings(4, 4, 2100, 3210, 4432);
        x.orderOf(2, 3, 31);
        x.field(5);
        for (int rod = 0; rod < 8; rod++) {
            x.rod(rod, 1000 + rod % 5, 100 + rod / 2);
        }
        x.meet(0, 1);
        x.drop(7);
        x.lines(127);
        x.points(127);
        x.count(0);
        x.digest();
    }
}
