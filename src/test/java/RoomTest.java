import java.lang.management.ManagementFactory;

/** The room of a run: an object makes its rows when it is made, and no call makes anything more. */
public final class RoomTest {
    public static void main(String[] args) {
        com.sun.management.ThreadMXBean room = (com.sun.management.ThreadMXBean) ManagementFactory.getThreadMXBean();
        long id = Thread.currentThread().getId();
        calls(new NoFartherThanAThrow());
        long start = room.getThreadAllocatedBytes(id);
        NoFartherThanAThrow x = new NoFartherThanAThrow();
        long made = room.getThreadAllocatedBytes(id);
        for (int i = 0; i < 20; i++) {
            calls(x);
        }
        long end = room.getThreadAllocatedBytes(id);
        Due.due("an object takes 30000 bytes at most: " + (made - start), made - start < 30000 ? 1 : 0, 1);
        Due.due("its calls make nothing: " + (end - made), end - made < 4000 ? 1 : 0, 1);
        Due.finish();
    }

    private static void calls(NoFartherThanAThrow x) {
        x.row(0, 3, 160);
        x.row(1, 3, 160);
        x.set(0, 0, 'm');
        x.copy(0, 1, 0, 0, 160);
        for (int i = 0; i < 8; i++) {
            x.man(10 + i);
            x.thing(i % 7, 20, 2, i);
            x.want(i, 30 + i, 50);
            x.act(i, 2, 5);
            x.given(i);
        }
        x.valley(0);
        x.judge(0, 0, 40);
        x.fewest(0, 60);
        x.order(0, 255, 50, 7);
        x.helps(0, 255, 60, 3);
        x.weakest(0, 255);
        x.handovers(0, 60);
        x.mill(0, 60, 1);
        x.shared();
        x.cast(0, 0);
        x.toss(0, 0, 1);
        x.part(5);
        x.image();
        x.restore();
        x.night();
        x.status(11);
    }
}
