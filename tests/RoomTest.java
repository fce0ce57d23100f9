import java.lang.management.ManagementFactory;

/** All calls of one run live in one room: what an object needs is made with it, and no call makes anything more. */
final class RoomTest {
    private static final Due DUE = new Due();
    private static final com.sun.management.ThreadMXBean ROOM =
        (com.sun.management.ThreadMXBean) ManagementFactory.getThreadMXBean();

    public static void main(String[] args) {
        SpokenBite first = rich();
        allCalls(first);
        long me = Thread.currentThread().getId();
        long before = ROOM.getThreadAllocatedBytes(me);
        SpokenBite b = new SpokenBite();
        long made = ROOM.getThreadAllocatedBytes(me) - before;
        DUE.due("an object needs no more than 60000 bytes, not " + made, made <= 60000 ? 1 : 0, 1);
        DUE.due("it is one", b.count(0), 0);
        before = ROOM.getThreadAllocatedBytes(me);
        int sum = 0;
        for (int i = 0; i < 20; i++) {
            sum += allCalls(first);
        }
        made = ROOM.getThreadAllocatedBytes(me) - before;
        DUE.due("calls make nothing, not " + made + " bytes", made <= 2000 ? 1 : 0, 1);
        DUE.due("they were answered", sum != 0 ? 1 : 0, 1);
        DUE.close();
    }

    private static SpokenBite rich() {
        SpokenBite b = Twin.rich();
        Due.ruleOf(b, "eat 1 if not [loud>5 and dish<3] or minute%7=3;eat loud-known*clashes");
        b.force(3);
        return b;
    }

    private static int allCalls(SpokenBite b) {
        int sum = b.feed(0x65617420, 0x312b6c6f, 0x75642020, 0x20202020, 0x20202020) + b.rule() + b.dinner();
        sum += b.end(0) + b.force(0) + b.force(3) + b.dish(0, 2) + b.guest(0, 1) + b.clashes(0) + b.throat(1);
        sum += b.minute() + b.offer(3) + b.offer(-1) + b.serve(0) + b.fetch(0) + b.tell(0, 5) + b.undo();
        sum += b.ahead(0, 100, 0) + b.said(4) + b.quiet() + b.knowing(1) + b.bestRow(4, 1) + b.hush(4, 0) + b.rows(0);
        sum += b.believed(0) + b.dropped(0) + b.leftOut(40, 2) + b.rests(0, 1, 20, 0) + b.crumbs(99, 0) + b.loudest(100, 1);
        sum += b.note(3, 0, 0, 1) + b.ruled(0) + b.look(60, 1) + b.note(-1, 0, 0, 0) + b.seed(77) + b.hiccups(10, 60, 50, 1);
        return sum + b.count(8) + b.image(1) + b.back(1);
    }
}
