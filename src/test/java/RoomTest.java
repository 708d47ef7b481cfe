import java.lang.management.ManagementFactory;

/** All calls of a run live in one room: the rows are made with the object, and no call makes more. */
public final class RoomTest {
    private static final int OBJECTS = 20;

    private static int answers = 0;

    public static void main(String[] args) {
        Due due = new Due("RoomTest");
        com.sun.management.ThreadMXBean threads = (com.sun.management.ThreadMXBean) ManagementFactory.getThreadMXBean();
        long self = Thread.currentThread().getId();
        HeldDoor[] doors = new HeldDoor[OBJECTS];
        for (int i = 0; i < OBJECTS; i++) {
            doors[i] = new HeldDoor();
        }
        callAll(doors[0]);
        threads.getThreadAllocatedBytes(self);
        long before = threads.getThreadAllocatedBytes(self);
        for (int i = 1; i < OBJECTS; i++) {
            callAll(doors[i]);
        }
        long made = threads.getThreadAllocatedBytes(self) - before;
        // The least object takes 16 bytes: below this, no call can have made one each time.
        due.isTrue("calls made " + made + " bytes", made < 16 * (OBJECTS - 1));
        long room = threads.getThreadAllocatedBytes(self);
        for (int i = 0; i < OBJECTS; i++) {
            doors[i] = new HeldDoor();
        }
        long each = (threads.getThreadAllocatedBytes(self) - room) / OBJECTS;
        due.isTrue("an object takes " + each + " bytes", each < 6000);
        due.isTrue("answers came", answers != 0);
        due.end();
    }

    private static void callAll(HeldDoor x) {
        answers += x.person(0, 4) + x.person(3, 9) + x.set(1, 1, 0) + x.person(5, 30) + x.person(9, 9) + x.door(1, 30);
        answers += x.now(4) + x.of(1, 6) + x.turn(0, 2) + x.as(0, 0) + x.as(0, 5) + x.holds(0, 1);
        answers += x.asks(0, 1) + x.seconds(1) + x.on(1, 400, 0) + x.loose(400) + x.comes(1) + x.shuts();
        answers += x.all() + x.care(100) + x.kind(0, 100) + x.far(1, 100) + x.order(100) + x.take(100);
        answers += x.load(1, 100) + x.feed(0x6e657739, 4) + x.morning() + x.feed(0x6e657739, 4) + x.wipe() + x.sheet(0, 8, 40);
        answers += x.sheet(1, 8, 30) + (int) x.write(0, 3, 5) + x.copy(0, 0, 1, 0, 5) + x.lays(1) + x.book(0, 1) + x.read(0, 1);
        answers += x.image() + x.undo() + x.tear() + x.undo() + x.count(3) + x.status(-1);
    }
}
