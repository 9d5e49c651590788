/** Promises 10 to 12: write, written, again. */
public final class WriteTest {
    private static final int NONE = NameScope.NONE;

    public static void main(String[] args) {
        ordinary();
        arrows();
        numbers();
        manyNumbers();
        reading();
        layingAgain();
        Due.end();
    }

    // The terms are made by contracting node 0 or another one, so that names can collide.
    private static void written(String nodes, int[] contracted, String due) {
        NameScope x = Due.bound(nodes);
        for (int k : contracted) {
            Due.is("contract(" + k + ") of " + nodes, x.contract(k) > 0, true);
        }
        String term = Due.term(x);
        Due.is("write() of " + nodes, x.write(), due.split(" ").length);
        Due.is("written of " + nodes, Due.paper(x), due);
        Due.is("the term of " + nodes, Due.term(x), term);
        x.keep();
        x.again();
        Due.is("bind() of " + due, x.bind(), due.split(" ").length);
        Due.is("same() of " + due, x.same(), true);
    }

    private static void written(String nodes, String due) {
        written(nodes, new int[0], due);
    }

    private static void ordinary() {
        Due.at("promise 10");
        written("0g", "0g");
        written("5:100", "5:100");
        written("1x 5:0 1x 0x 0x", "1x 5:0 1x 0x 0x");
        written("3a 0g 1b 0h 4 0a 0b", "3a 0g 1b 0h 4 0a 0b");
        written("1g 0g 0g", "1g 0g 0g");
        written("1g 5:0 5:0", "1g 5:0 5:0");
        NameScope x = new NameScope();
        Due.is("write() of no term", x.write(), NONE);
        Due.lay(x, "5:1");
        Due.is("write() of laid nodes", x.write(), NONE);
        x.bind();
        Due.is("write()", x.write(), 1);
        Due.lay(x, "4 5:2 5:3");
        x.bind();
        Due.is("what was written stays", Due.paper(x), "5:1");
        Due.is("write()", x.write(), 3);
        Due.is("in place of that", Due.paper(x), "4 5:2 5:3");
    }

    private static void arrows() {
        Due.at("promise 10, arrows");
        written("6 0g 0h", "6 0g 0h");
        written("2a 0g 0h", "6 0g 0h");
        written("2a 0g 0a", "2a 0g 0a");
        written("1a 5:0 2a 0a 5:0", "1a 5:0 6 0a 5:0");
        written("1a 5:0 6 0a 2b 0a 4 0a 0b", "1a 5:0 6 0a 2b 0a 4 0a 0b");
        written("1a 5:0 5:1", "1a 5:0 5:1");
        written("3a 5:0 5:1", "3a 5:0 5:1");
        written("4 1a 5:0 2b 0g 0a 0h", new int[] {0}, "6 0g 0h");
        // An arrow has no name that others would have to keep clear of.
        written("2a 5:0 1a 5:0 0a", "6 5:0 1a 5:0 0a");
    }

    private static void numbers() {
        Due.at("promise 10, numbers");
        int[] second = {2};
        written("4 1y 5:0 1g 5:0 4 0y 0g 0g", new int[] {0}, "1g1 5:0 4 0g 0g1");
        written("4 1y 5:0 2g 5:0 4 0y 0g 0g", new int[] {0}, "2g1 5:0 4 0g 0g1");
        written("4 1y 5:0 3g 5:0 4 0y 0g 0g", new int[] {0}, "3g1 5:0 4 0g 0g1");
        // Unused, but it would still take what is meant for another one.
        written("4 1y 5:0 1g 5:0 0y 0g", new int[] {0}, "1g1 5:0 0g");
        written("1x 5:0 4 1y 5:0 1x 5:0 0y 0x", second, "1x 5:0 1x1 5:0 0x");
        // In the first part only.
        written("1x 5:0 4 1y 5:0 1x 0y 0x 0x", second, "1x 5:0 1x 0x 0x");
        written("4 1y 5:0 1g 0y 0g 0g", new int[] {0}, "1g 0g 0g");
        // Beside the last part, or behind it.
        written("1x 5:0 4 1x 5:0 0x 0x", "1x 5:0 4 1x 5:0 0x 0x");
        written("4 1g 5:0 0g 0g", "4 1g 5:0 0g 0g");
        // An outer variable that is written with a number.
        written("1x 5:0 4 1y 5:0 1x 5:0 4 0x 4 1z 5:0 1x 5:0 4 0z 4 0y 0x 0x 0x", new int[] {2, 6},
            "1x 5:0 1x1 5:0 4 0x1 1x2 5:0 4 0x1 4 0x 0x2");
        // x1 is an outer variable's own name, in the last part or not.
        written("1x1 5:0 1x 5:0 4 1y 5:0 1x 5:0 4 4 0x1 0x 0y 0x", new int[] {4},
            "1x1 5:0 1x 5:0 1x2 5:0 4 4 0x1 0x2 0x");
        written("1x1 5:0 1x 5:0 4 1y 5:0 1x 5:0 4 0x 0y 0x", new int[] {4},
            "1x1 5:0 1x 5:0 1x1 5:0 4 0x1 0x");
        // A number behind a name that ends with one; x01 and x1a are x with no number.
        written("1x1 5:0 4 1y 5:0 1x1 5:0 4 0x1 0y 0x1", second,
            "1x1 5:0 1x11 5:0 4 0x11 0x1");
        written("1x01 5:0 1x1a 5:0 1x 5:0 4 1y 5:0 1x 5:0 4 4 4 0x 0x01 0x1a 0y 0x",
            new int[] {6},
            "1x01 5:0 1x1a 5:0 1x 5:0 1x1 5:0 4 4 4 0x1 0x01 0x1a 0x");
        written("1x2 5:0 1x 5:0 4 1y 5:0 1x 5:0 4 4 0x2 0x 0y 0x", new int[] {4},
            "1x2 5:0 1x 5:0 1x1 5:0 4 4 0x2 0x1 0x");
        written("1abcd 5:0 4 1y 5:0 1abcd 5:0 4 0abcd 0y 0abcd", second,
            "1abcd 5:0 1abcd1 5:0 4 0abcd1 0abcd");
        // A variable of the first part's own binders is none of the outer ones.
        written("1x 5:0 4 1y 5:0 1x 1x 0y 0x 0x 0x", second, "1x 5:0 1x 1x 0x 0x 0x");
    }

    // Globals g1 .. take their numbers only where they are in the last part.
    private static void manyNumbers() {
        Due.at("promise 10, many numbers");
        NameScope x = new NameScope();
        x.global('g');
        for (int i = 1; i <= 120; i++) {
            if (i != 115) {
                x.global(Due.name("g" + i));
            }
        }
        StringBuilder nodes = new StringBuilder("4 1y 5:0 1g 5:0 ");
        for (int i = 1; i <= 114; i++) {
            nodes.append("4 0g").append(i).append(' ');
        }
        Due.lay(x, nodes + "4 0y 0g 0g");
        x.bind();
        Due.is("contract(0)", x.contract(0) > 0, true);
        x.write();
        Due.is("the name", Due.text(x.written(0, 1)), "g115");
        Due.is("its use", Due.text(x.written(2 + 2 * 114 + 2, 1)), "g115");
    }

    private static void reading() {
        Due.at("promise 11");
        NameScope x = Due.bound("3a 6 0g 5:77 1b 0h 2c 0b 4 4 0c 0k 0a");
        x.write();
        long[][] due = {{3, 'a'}, {6, 0}, {0, 'g'}, {5, 77}, {1, 'b'}, {0, 'h'}, {2, 'c'},
            {0, 'b'}, {4, 0}, {4, 0}, {0, 'c'}, {0, 'k'}, {0, 'a'}};
        for (int k = 0; k < due.length; k++) {
            Due.is("written(" + k + ", 0)", x.written(k, 0), due[k][0]);
            Due.is("written(" + k + ", 1)", x.written(k, 1), due[k][1]);
            for (int what : new int[] {-1, 2, 3, Integer.MIN_VALUE, Integer.MAX_VALUE}) {
                Due.is("written(" + k + ", " + what + ")", x.written(k, what), NONE);
            }
        }
        for (int k : new int[] {-1, 13, 3000, Integer.MIN_VALUE, Integer.MAX_VALUE}) {
            for (int what = -1; what <= 2; what++) {
                Due.is("written(" + k + ", " + what + ")", x.written(k, what), NONE);
                Due.is("of nothing", new NameScope().written(k, what), NONE);
            }
        }
        Due.lay(x, "5:0");
        x.bind();
        Due.is("nodes()", x.nodes(), 1);
        Due.is("written(12, 1) still", x.written(12, 1), 'a');
        x.write();
        Due.is("written(1, 0) no more", x.written(1, 0), NONE);
    }

    private static void layingAgain() {
        Due.at("promise 12");
        NameScope x = new NameScope();
        Due.lay(x, "5:0 5:1");
        Due.is("again() of nothing", x.again(), 0);
        Due.is("drop()", x.drop(), 0);
        x = Due.bound("1a 5:0 0a");
        x.write();
        Due.lay(x, "5:0 5:1 5:2 5:3");
        Due.is("again()", x.again(), 3);
        Due.is("again() twice", x.again(), 3);
        Due.is("lay behind it", x.lay(5, 1), 4);
        Due.is("bind()", x.bind(), NONE);
        Due.is("drop()", x.drop(), 4);
        Due.is("written stays", Due.paper(x), "1a 5:0 0a");
        x.lay(4, 0);
        Due.is("again() in place", x.again(), 3);
        Due.is("bind()", x.bind(), 3);
        Due.is("the term", Due.term(x), "1a 5:0 0:0");
        Due.is("none are laid then", x.drop(), 0);
        // Long names differ behind their first four bytes, too.
        x = Due.bound("1abcd 5:0 4 1y 5:0 1abcd 5:0 4 4 1z 5:0 1abcd 5:0 4 4 0abcd 0z 0y 0abcd 0y "
            + "0abcd");
        x.contract(2);
        x.contract(5);
        x.write();
        Due.is("written", Due.paper(x),
            "1abcd 5:0 1abcd1 5:0 4 1abcd2 5:0 4 4 0abcd2 0abcd1 0abcd 0abcd");
        x.keep();
        x.again();
        x.bind();
        Due.is("same()", x.same(), true);
        Due.is("the term", Due.term(x), "1abcd 5:0 1abcd 5:0 4 1abcd 5:0 4 4 0:0 0:1 0:2 0:1");
    }
}
