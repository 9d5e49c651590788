/** Promises 6 to 8: nodes, node, uses. */
public final class ReadTest {
    private static final int NONE = NameScope.NONE;
    private static final int[] NO_NODES = {-1, -2, Integer.MIN_VALUE, Integer.MAX_VALUE, 3000};

    public static void main(String[] args) {
        counting();
        reading();
        longNames();
        counts();
        Due.end();
    }

    private static void counting() {
        Due.at("promise 6");
        NameScope x = new NameScope();
        Due.is("nodes()", x.nodes(), 0);
        x.lay(5, 0);
        Due.is("nodes() of what is laid only", x.nodes(), 0);
        x.bind();
        Due.is("nodes() of a term", x.nodes(), 1);
        Due.lay(x, "4 5:0 5:0");
        Due.is("nodes() before the next", x.nodes(), 1);
        x.bind();
        Due.is("nodes() of the next", x.nodes(), 3);
        x.drop();
        Due.is("nodes() behind drop()", x.nodes(), 3);
    }

    private static void reading() {
        Due.at("promise 7");
        NameScope x = Due.bound("3abcd 6 0g 5:77 1b 0h 2c 0b 4 4 0c 0k 0abcd");
        long[][] due = {{3, Due.name("abcd"), 13}, {2, 0, 3}, {7, 0, 1}, {5, 77, 1},
            {1, 'b', 9}, {7, 1, 1}, {2, 'c', 7}, {0, 0, 1}, {4, 0, 5}, {4, 0, 3}, {0, 0, 1},
            {7, 2, 1}, {0, 2, 1}};
        for (int k = 0; k < due.length; k++) {
            for (int what = 0; what < 3; what++) {
                Due.is("node(" + k + ", " + what + ")", x.node(k, what), due[k][what]);
            }
            for (int what : new int[] {-1, 3, Integer.MIN_VALUE, Integer.MAX_VALUE}) {
                Due.is("node(" + k + ", " + what + ")", x.node(k, what), NONE);
            }
        }
        Due.is("node(13, 0)", x.node(13, 0), NONE);
        for (int k : NO_NODES) {
            for (int what = -1; what <= 3; what++) {
                Due.is("node(" + k + ", " + what + ")", x.node(k, what), NONE);
                Due.is("of no term", new NameScope().node(k, what), NONE);
            }
        }
    }

    // A name of more than four bytes binds with all of them, and the first four are kept.
    private static void longNames() {
        Due.at("promise 7, long names");
        NameScope x = Due.bound("1abcd 5:0 4 1y 5:0 1abcd 5:0 4 0abcd 0y 0abcd");
        Due.is("contract(2)", x.contract(2), 7);
        x.write();
        Due.is("written", Due.paper(x), "1abcd 5:0 1abcd1 5:0 4 0abcd1 0abcd");
        x.again();
        Due.is("bind()", x.bind(), 7);
        Due.is("the term", Due.term(x), "1abcd 5:0 1abcd 5:0 4 0:0 0:1");
    }

    private static void counts() {
        Due.at("promise 8");
        NameScope x = Due.bound("1a 5:0 3b 4 0a 0a 2c 0b 6 4 0a 0c 4 1a 0a 0a 0c");
        int[] due = {4, NONE, 1, NONE, NONE, NONE, 2, NONE, 0, NONE, NONE, NONE, NONE, 1};
        for (int k = 0; k < due.length; k++) {
            Due.is("uses(" + k + ")", x.uses(k), due[k]);
        }
        for (int k : NO_NODES) {
            Due.is("uses(" + k + ")", x.uses(k), NONE);
            Due.is("uses of no term", new NameScope().uses(k), NONE);
        }
        Due.is("uses of an arrow", Due.bound("1a 5:0 6 0a 0a").uses(2), 0);
        Due.is("uses of a global", Due.bound("0g").uses(0), NONE);
        Due.is("uses in a first part", Due.bound("1g 0g 5:0").uses(0), 0);
        Due.is("uses behind the last part", Due.bound("1b 5:0 4 1a 5:0 0a 0b").uses(3), 1);
        Due.lay(x, "1a 5:0 1b 5:0 1c 5:0 1d 5:0 1e 5:0 4 0b 4 0c 4 0d 0z");
        Due.is("bind() that fails", x.bind(), -2 - 16);
        Due.is("uses(0) then", x.uses(0), 4);
        Due.is("contract(2)", x.contract(2), 15);
        Due.is("uses(0) contracted", x.uses(0), 4);
        Due.is("uses(2) contracted", x.uses(2), 2);
    }
}
