/** Promise 9: contract. */
public final class ContractTest {
    private static final int NONE = NameScope.NONE;
    private static final int FULL = NameScope.FULL;

    public static void main(String[] args) {
        ordinary();
        otherVariables();
        refused();
        atTheLimit();
        farBeyondTheLimit();
        Due.end();
    }

    private static void after(String nodes, int k, String due) {
        NameScope x = Due.bound(nodes);
        String what = "contract(" + k + ") of " + nodes;
        Due.is(what, x.contract(k), due.split(" ").length);
        Due.is(what, Due.term(x), due);
        for (int i = 0; i < x.nodes(); i++) {
            Due.is(what + ": node(" + i + ", 2)", x.node(i, 2), sizeOf(x, i));
        }
    }

    // How many nodes the term has from k on until each has its parts.
    private static int sizeOf(NameScope x, int k) {
        int missing = 1;
        int size = 0;
        while (missing > 0) {
            long kind = x.node(k + size, 0);
            missing += kind >= 1 && kind <= 4 ? 1 : -1;
            size++;
        }
        return size;
    }

    private static void ordinary() {
        Due.at("promise 9");
        after("4 1a 5:0 0a 0g", 0, "7:0");
        after("4 1a 5:0 5:1 0g", 0, "5:1");
        after("3a 0g 0a", 0, "7:0");
        after("3a 0g 5:1", 0, "5:1");
        after("3a 4 0g 0h 4 0a 0a", 0, "4 4 7:0 7:1 4 7:0 7:1");
        after("4 0g 4 1a 5:0 4 0a 0a 0h", 2, "4 7:0 4 7:1 7:1");
        after("4 4 1a 5:0 0a 0g 0h", 1, "4 7:0 7:1");
        after("6 3a 0g 0a 0h", 1, "2- 7:0 7:1");
        after("4 1a 5:0 0a 1b 5:1 0b", 0, "1b 5:1 0:0");
        after("3a 3b 0g 0b 3c 0a 0c", 0, "3c 3b 7:0 0:0 0:0");
    }

    private static void otherVariables() {
        Due.at("promise 9, other variables");
        after("1x 5:0 1y 5:1 4 1a 5:2 4 4 0x 0y 0a 0g", 4, "1x 5:0 1y 5:1 4 4 0:1 0:0 7:0");
        after("1x 5:0 4 1a 5:2 1b 0a 4 4 0a 0b 0x 0x", 2, "1x 5:0 1b 0:0 4 4 0:1 0:0 0:1");
        after("1x 5:0 4 1a 5:2 1b 5:0 1c 5:0 0a 1d 0x 4 0d 0x", 2,
            "1x 5:0 1b 5:0 1c 5:0 1d 0:2 4 0:0 0:3");
        after("1x 5:0 3a 0x 6 0a 2b 0x 4 0a 4 0b 0x", 2, "1x 5:0 2- 0:0 2b 0:1 4 0:2 4 0:0 0:2");
        after("1x 5:0 4 3a 0x 0a 0x", 3, "1x 5:0 4 0:0 0:0");
        after("1x 5:0 1y 4 1a 5:0 0a 0x 4 0x 0y", 3, "1x 5:0 1y 0:0 4 0:1 0:0");
        after("1x 5:0 4 1x 0x 0x 0x", 2, "1x 5:0 0:0");
    }

    private static void refused() {
        Due.at("promise 9, refused");
        String nodes = "4 1a 2c 5:0 0c 4 0a 4 2b 0g 0b 3d 5:7 0d 0h";
        String term = "4 1a 2c 5:0 0:0 4 0:0 4 2b 7:0 0:0 3d 5:7 0:0 7:1";
        NameScope x = Due.bound(nodes);
        x.write();
        for (int k = -1; k <= 15; k++) {
            if (k != 0 && k != 11) {
                Due.is("contract(" + k + ")", x.contract(k), NONE);
            }
        }
        Due.is("contract(min)", x.contract(Integer.MIN_VALUE), NONE);
        Due.is("contract(max)", x.contract(Integer.MAX_VALUE), NONE);
        Due.is("the term", Due.term(x), term);
        Due.is("contract(11)", x.contract(11), 13);
        Due.is("contract(0)", x.contract(0), 7);
        Due.is("the term", Due.term(x), "4 7:1 4 2b 7:0 0:0 5:7");
        Due.is("what was written stays", x.written(14, 1), 'h');
        Due.is("an application of a let", Due.bound("4 3a 5:0 0a 5:1").contract(0), NONE);
        Due.is("of no term", new NameScope().contract(0), NONE);
    }

    // Every node has two parts or none, so a term has an odd number of nodes: 2999 at most.
    private static void atTheLimit() {
        Due.at("promise 9, the limit");
        Due.is("2999 nodes", Due.bound(Big.sum(2999)).contract(0), 2999);
        NameScope x = Due.bound("4 " + Big.sum(2999) + " 5:0");
        Due.is("3001 nodes", x.contract(1), FULL);
        Due.is("changing nothing", x.node(0, 2), x.nodes());
        Due.is("still a let", x.node(1, 0), 3);
        x = Due.bound("4 1z 5:0 " + Big.sum(2995) + " 5:0");
        Due.is("2999 nodes with a fun", x.contract(3), 2999);
        Due.is("less", x.contract(0), 2995);
        x = Due.bound("3a " + Big.chain("5:1", 50) + " 3b " + Big.chain("0a", 15) + " 4 0b 0b");
        Due.is("a", x.contract(0), 1503);
        Due.is("b of 1499 twice", x.contract(0), 2999);
        x = Due.bound("3a " + Big.chain("5:1", 50) + " 3b 4 5:0 " + Big.chain("0a", 15) + " 4 0b 0b");
        Due.is("a", x.contract(0), 1505);
        Due.is("b of 1501 twice", x.contract(0), FULL);
        Due.is("nodes()", x.nodes(), 1505);
        Due.is("b", x.uses(0), 2);
    }

    // So many uses of so great a part that it must be counted without copying.
    private static void farBeyondTheLimit() {
        Due.at("promise 9, far beyond");
        NameScope x = Due.bound("3a " + Big.chain("5:1", 30) + " 3b " + Big.chain("0a", 20)
            + " 3c 5:0 " + Big.chain("0b", 20));
        Due.is("a", x.contract(0), 1 + 1199 + 1 + 1 + 39);
        Due.is("b", x.contract(0), FULL);
        Due.is("b once more", x.contract(0), FULL);
        Due.is("c", x.contract(1200), 1 + 1199 + 39);
        Due.is("b still", x.contract(0), FULL);
        Due.is("nodes()", x.nodes(), 1239);
    }
}
