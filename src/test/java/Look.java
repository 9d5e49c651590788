import java.util.function.Supplier;
import java.util.function.ToLongFunction;

/** All that an object can tell of its state, and whether a call has changed it. */
final class Look {
    private static final int MOST_PLACES = 25;

    private Look() {
    }

    /**
     * Makes the call on a new object and compares all that the object tells then with what
     * another one tells that was made in the same way, without the call.
     */
    static void unchanged(String what, Supplier<NameScope> made, ToLongFunction<NameScope> call,
            long due) {
        NameScope x = made.get();
        Due.is(what, call.applyAsLong(x), due);
        Due.is(what + " changes nothing", all(x), all(made.get()));
    }

    /**
     * An object of which the kept term, the term and the written one differ, and of which these
     * nodes are laid. Its globals are g, h and k.
     */
    static NameScope busy(String laid) {
        NameScope x = Due.bound("1a 5:0 0a");
        x.keep();
        Due.lay(x, "2b 0g 0h");
        x.bind();
        x.write();
        Due.lay(x, "4 1b 0g 4 0b 0b 0h");
        x.bind();
        Due.lay(x, laid);
        return x;
    }

    /** As above; what is laid is the kept one but for names, so that bind() makes it seen. */
    static NameScope busy() {
        return busy("1c 5:0 0c");
    }

    /** Takes some 200 calls, and changes the object: what is laid can't be seen otherwise. */
    static String all(NameScope x) {
        StringBuilder all = new StringBuilder();
        term(x, all);
        paper(x, all);
        all.append(" same ").append(x.same());
        all.append(", next global ").append(x.global(Due.name("zzzz")));
        all.append(", laid ").append(bindLaid(x));
        term(x, all);
        all.append(" same ").append(x.same());
        all.append(", left ").append(x.drop());
        return all.toString();
    }

    private static void term(NameScope x, StringBuilder all) {
        int count = x.nodes();
        all.append(" nodes ").append(count);
        for (int k = 0; k <= count; k += 1 + count / MOST_PLACES) {
            all.append(' ').append(x.node(k, 0)).append('/').append(x.node(k, 1)).append('/')
                .append(x.node(k, 2)).append('/').append(x.uses(k));
        }
    }

    private static void paper(NameScope x, StringBuilder all) {
        all.append(", written");
        for (int k = 0; k < MOST_PLACES && x.written(k, 0) != NameScope.NONE; k++) {
            all.append(' ').append(x.written(k, 0)).append('/').append(x.written(k, 1));
        }
    }

    // Nodes that lack a few to be a term get them.
    private static int bindLaid(NameScope x) {
        int count = x.bind();
        for (int more = 0; more < 3 && count == NameScope.NONE; more++) {
            x.lay(5, 99);
            count = x.bind();
        }
        return count;
    }
}
