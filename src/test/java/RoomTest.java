import java.lang.management.ManagementFactory;

/** What a run of calls takes of the room: the constructor makes the rows, and the calls use them again. */
final class RoomTest {
    private static final com.sun.management.ThreadMXBean ROOM = (com.sun.management.ThreadMXBean) ManagementFactory.getThreadMXBean();

    public static void main(String[] args) {
        Desk desk = new Desk();
        long before = ROOM.getCurrentThreadAllocatedBytes();
        ProbeConsole made = new ProbeConsole();
        long size = ROOM.getCurrentThreadAllocatedBytes() - before;
        desk.due("a new object of " + size + " bytes is small", size < 60_000 ? 1 : 0, 1);
        desk.due("it is new", made.wipe(), 0);

        desk.method("m.f(3)=m.f(a,b,c+1)+m.f(b,a,c)#a/b", 0);
        String[] watches = {"watch enter * a+b*c-n", "watch return m.* r 1", "watch throw * x/0 !a", "monitor *", "keep ?.*"};
        for (int i = 0; i < watches.length; i++) {
            desk.command(watches[i], i);
        }
        ProbeConsole x = desk.console;
        work(x);
        before = ROOM.getCurrentThreadAllocatedBytes();
        work(x);
        long taken = ROOM.getCurrentThreadAllocatedBytes() - before;
        desk.due("calls that take " + taken + " bytes take none", taken < 1000 ? 1 : 0, 1);
        desk.end("RoomTest");
    }

    private static void work(ProbeConsole x) {
        for (int i = 0; i < 25; i++) {
            x.call(0, i, i & 3, 1);
            x.method();
            x.command();
            x.replay(i % x.keeps());
            x.records();
            x.wipe();
            x.feed(8, 0x2068637461772020L);
            x.feed(8, 0x2061206120726574L);
        }
    }
}
