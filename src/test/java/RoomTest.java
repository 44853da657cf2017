import com.sun.management.ThreadMXBean;
import java.lang.management.ManagementFactory;

/** All calls of a run live in one room: a call makes nothing, and an object is made of few things. */
public final class RoomTest {
    private static final ThreadMXBean BEAN = (ThreadMXBean) ManagementFactory.getThreadMXBean();

    public static void main(String[] args) {
        Check c = new Check();
        c.promise("the room");
        spend(make());
        long before = BEAN.getThreadAllocatedBytes(Thread.currentThread().getId());
        AheadOfAFriend x = make();
        long made = BEAN.getThreadAllocatedBytes(Thread.currentThread().getId()) - before;
        c.holds("an object is small: " + made + " bytes", made < 100_000);
        before = BEAN.getThreadAllocatedBytes(Thread.currentThread().getId());
        spend(x);
        long spent = BEAN.getThreadAllocatedBytes(Thread.currentThread().getId()) - before;
        c.holds("calls make nothing: " + spent + " bytes", spent < 4_000);
        c.end();
    }

    private static AheadOfAFriend make() {
        return new AheadOfAFriend();
    }

    private static final String TEXT = "minds not liked or 9999 < -(1 + 2 * (3 - gifts)); lasts 3 + number * (liked < 3); irks 1;";

    private static void spend(AheadOfAFriend x) {
        for (int i = 0; i < 5; i++) {
            x.person(0, 9);
        }
        for (int i = 0; i < 5; i++) {
            x.set(2, i, 31 & ~(1 << i));
        }
        for (int i = 0; i < TEXT.length(); i++) {
            x.feed(TEXT.charAt(i));
        }
        x.force(x.text());
        for (int i = 0; i < 20; i++) {
            x.sheet(i % 4, i % 3, 30);
            x.film(i % 4, 30);
            x.tells(i % 4, i % 5, i % 6);
            x.orders(i % 7);
            x.ahead(i % 5, 2);
            x.chance(i, 10, 4, 0);
            x.drawn(i);
            x.image();
            x.haste();
            x.minute();
            x.run(60, 10);
            x.back();
            x.fewest(54321);
            x.copy(0, 0, 0, 1, 20);
            x.people(0, 0, 0, 5);
        }
    }
}
