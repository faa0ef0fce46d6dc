import com.sun.management.ThreadMXBean;
import java.lang.management.ManagementFactory;

/** All calls of a run live in one room: an object is small, and no call but one that throws makes anything. */
public final class RoomTest {
    private static final String[] TEXTS = {
        "f10,5*3;f11,9*5;f12,20*2@1;f30,8*4;f40,30*9;f9,7;f14,3*7;f28,9*2;f33,5", "f10,14;f11,3;f20,9*2;f26,13*7;f35,9;f17,6;f29,4",
        "s10,6;s28,10;s16,12;s20,9;s35,5;s12,3;s25,8;s31,2"};

    private static WhereTheLadder x;
    private static long sum = 0;

    private static void type(String s) {
        x.end(0);
        for (int i = 0; i < s.length(); i += 4) {
            int v = 0;
            for (int k = 0; k < 4; k++) v = v << 8 | (i + k < s.length() ? s.charAt(i + k) : 0);
            x.sign(v);
        }
        x.end(s.length());
    }

    private static void callAll() {
        for (String s : TEXTS) {
            type(s);
            sum += x.orchard();
        }
        type("(d+1)*(u<3)+y/2+w-k*--o");
        sum += x.rule();
        for (int turn = 0; turn < 3; turn++) {
            type("a;m1;p3;h1;p0;d;k;z;m2;o");
            sum += x.day() + x.fewest() + x.needed() + x.birds(3) + x.next(1) + x.route(255) + x.work(255) + x.soonest();
            sum += x.pays(0) + x.trips(0) + x.helps() + x.hooked() + x.broken(1) + x.sweep(900) + x.dusk(300) + x.gentle();
            sum += x.harm() + x.share(255) + x.ripens() + x.ondays(5) + x.allripe() + x.marks(20, 9) + x.fits(65535);
            type("10,20,30,20,10,20");
            sum += x.grass(99) + x.leaned(3, 2) + x.nearest(4) + x.both(0, 1) + x.never() + x.reached(0) + x.from(0, 1);
            sum += x.seconds(0, 0, 0) + x.autumn(5, 30, 3) + x.sheet(2, 16, 3, 1) + x.set(4, 5) + x.undo() + x.count(10);
            sum += (x.keep(1) ? 1 : 0) + x.sleep() + x.move(1) + x.pick(7, 0) + x.shake() + x.foot(1) + (x.again(1) ? 1 : 0) + x.row(0);
        }
    }

    public static void main(String[] args) {
        ThreadMXBean threads = (ThreadMXBean) ManagementFactory.getThreadMXBean();
        long id = Thread.currentThread().getId();
        x = new WhereTheLadder();
        callAll();
        long start = threads.getThreadAllocatedBytes(id);
        x = new WhereTheLadder();
        long made = threads.getThreadAllocatedBytes(id);
        callAll();
        long called = threads.getThreadAllocatedBytes(id);
        System.out.println("a new object takes " + (made - start) + " bytes, 150 calls of all kinds " + (called - made) + " (" + sum + ")");
        if (made - start > 8000 || called - made > 500) {
            System.out.println("that is too much");
            System.exit(1);
        }
    }
}
