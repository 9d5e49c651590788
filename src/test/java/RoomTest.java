import java.lang.management.ManagementFactory;

/**
 * All objects and arrays of a run live in one room of some 7.3 million fields and elements, and
 * none leaves it: so calls must use their rows again. An element is taken for four bytes here,
 * the fewest that most of them have.
 */
public final class RoomTest {
    private static final long ROOM = 7_300_000L * 4;
    private static final int CALLS = 512;

    public static void main(String[] args) {
        Due.at("the room");
        bytes(() -> new NameScope());
        Due.is("512 new objects fit", bytes(() -> newObjects()) < ROOM, true);
        Due.is("twenty objects with great terms fit", bytes(() -> greatTerms(20)) < ROOM, true);
        NameScope x = great();
        callAll(x);
        Due.is("calls on one of them make nothing", bytes(() -> callAll(x)) < 1000, true);
        Due.end();
    }

    private static void newObjects() {
        for (int i = 0; i < CALLS; i++) {
            new NameScope().lay(5, 0);
        }
    }

    private static void greatTerms(int objects) {
        for (int i = 0; i < objects; i++) {
            callAll(great());
        }
    }

    // The text is made beforehand: it would be counted too.
    private static final long[][] NODES = nodes();

    private static long[][] nodes() {
        String[] texts = Big.sum(2999).trim().split("\\s+");
        long[][] nodes = new long[texts.length][];
        for (int i = 0; i < texts.length; i++) {
            String rest = texts[i].substring(1);
            nodes[i] = new long[] {texts[i].charAt(0) - '0',
                rest.startsWith(":") ? Long.parseLong(rest.substring(1)) : Due.name(rest)};
        }
        return nodes;
    }

    private static NameScope great() {
        NameScope x = new NameScope();
        for (long[] node : NODES) {
            x.lay((int) node[0], node[1]);
        }
        x.bind();
        Big.grow(x);
        return x;
    }

    private static void callAll(NameScope x) {
        for (int i = 0; i < 15; i++) {
            x.write();
            x.keep();
            x.again();
            x.bind();
            x.same();
            x.uses(0);
            x.contract(0);
        }
    }

    private static long bytes(Runnable calls) {
        com.sun.management.ThreadMXBean threads =
            (com.sun.management.ThreadMXBean) ManagementFactory.getThreadMXBean();
        long before = threads.getCurrentThreadAllocatedBytes();
        calls.run();
        return threads.getCurrentThreadAllocatedBytes() - before;
    }
}
