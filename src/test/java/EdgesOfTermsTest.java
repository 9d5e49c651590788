/** Promises 6 to 9 at their edges: a test for each sentence that names one. */
public final class EdgesOfTermsTest {
    private static final int NONE = NameScope.NONE;
    private static final int FULL = NameScope.FULL;
    // No object has such a node: around 0, around 3000, and where an int or a short wraps around.
    private static final int[] NO_NODES = {-1, -2, -3000, 2999, 3000, 3001, 32768, 65536,
        1 << 30, Integer.MIN_VALUE, Integer.MIN_VALUE + 1, Integer.MAX_VALUE, Integer.MAX_VALUE - 1};
    private static final int[] NO_WHATS = {-1, 3, 4, 256, 65536, Integer.MIN_VALUE,
        Integer.MAX_VALUE};

    public static void main(String[] args) {
        nodesOfNone();
        nodesAtTheMost();
        nodeOfNoTerm();
        nodeThatIsNone();
        nodeOfNoWhat();
        firstAndLastNode();
        besideIsNothing();
        besideOfNoName();
        besideOfLongNames();
        indexes();
        sizes();
        usesOfNoNode();
        usesOfNoBinder();
        usesNever();
        usesInTheLastPartOnly();
        usesAtTheMost();
        contractOfNoNode();
        contractOfOtherKinds();
        contractOfOtherFirstParts();
        contractToTheFewest();
        contractToTheMost();
        contractBeyondTheMost();
        contractFarBeyondTheMost();
        contractOfTooManyThatCannotBe();
        contractAtTheMost();
        contractAtBothEnds();
        variableUsedNever();
        otherVariablesMeanWhatTheyMeant();
        Due.end();
    }

    // A term of 2999 nodes; the last one is sort 2.
    private static NameScope full() {
        NameScope x = Due.bound(Big.sum(2999));
        Big.grow(x);
        return x;
    }

    private static void nodesOfNone() {
        Due.at("promise 6: \"0 for none\"");
        NameScope x = new NameScope();
        Due.is("nodes()", x.nodes(), 0);
        Due.lay(x, "4 0z 5:0");
        Due.is("nodes() with nodes laid", x.nodes(), 0);
        Due.is("bind()", x.bind(), -2 - 1);
        Due.is("nodes() when none was bound", x.nodes(), 0);
        x.keep();
        x.again();
        Due.is("nodes() still", x.nodes(), 0);
    }

    private static void nodesAtTheMost() {
        Due.at("promise 6: \"How many nodes the term has\", as many as can be");
        Due.is("nodes()", full().nodes(), 2999);
        Due.is("nodes(), one", Due.bound("5:0").nodes(), 1);
    }

    private static void nodeOfNoTerm() {
        Due.at("promise 7: \"NONE when there is no such node\", no term");
        NameScope x = new NameScope();
        Due.lay(x, "4 5:0 5:0");
        for (int what = 0; what <= 2; what++) {
            Due.is("node(0, " + what + ")", x.node(0, what), NONE);
            Due.is("node(-1, " + what + ")", x.node(-1, what), NONE);
        }
    }

    private static void nodeThatIsNone() {
        Due.at("promise 7: \"NONE when there is no such node\"");
        NameScope great = full();
        Due.is("the last one", great.node(2998, 1), 2);
        for (int what = 0; what <= 2; what++) {
            for (int k : NO_NODES) {
                Due.is("node(" + k + ", " + what + ") of 2999", great.node(k, what), NONE);
            }
            Due.is("node(1, " + what + ") of one", Due.bound("5:7").node(1, what), NONE);
            Due.is("node(7, " + what + ") of seven", Look.busy().node(7, what), NONE);
        }
        NameScope less = full();
        Due.lay(less, "4 5:0 5:0");
        less.bind();
        Due.is("node(3, 0) where a greater term was", less.node(3, 0), NONE);
        Due.is("node(2998, 0) where a greater term was", less.node(2998, 0), NONE);
    }

    private static void nodeOfNoWhat() {
        Due.at("promise 7: \"or what is none of these\"");
        for (int what : NO_WHATS) {
            for (int k = -1; k <= 7; k++) {
                Due.is("node(" + k + ", " + what + ")", Look.busy().node(k, what), NONE);
            }
        }
    }

    private static void firstAndLastNode() {
        Due.at("promise 7: \"Of node k of the term\", the first and the last");
        NameScope x = Look.busy();
        Due.is("node(0, 0)", x.node(0, 0), 4);
        Due.is("node(0, 2)", x.node(0, 2), 7);
        Due.is("node(6, 0)", x.node(6, 0), 7);
        Due.is("node(6, 1)", x.node(6, 1), 1);
        Due.is("node(6, 2)", x.node(6, 2), 1);
    }

    private static void besideIsNothing() {
        Due.at("promise 7: \"what it has beside (0 for 4)\"");
        Due.is("an application", Due.bound("4 5:1 5:2").node(0, 1), 0);
        Due.is("one that was contracted to", contracted("3a 0g 4 0a 0a", 0).node(0, 1), 0);
    }

    private static NameScope contracted(String nodes, int k) {
        NameScope x = Due.bound(nodes);
        x.contract(k);
        return x;
    }

    private static void besideOfNoName() {
        Due.at("\"or for 2 perhaps without one (0)\"");
        NameScope x = Due.bound("6 5:1 2a 5:2 5:3");
        Due.is("an arrow's kind", x.node(0, 0), 2);
        Due.is("an arrow's name", x.node(0, 1), 0);
        Due.is("a name that is not used", x.node(2, 1), 'a');
        x.write();
        x.again();
        x.bind();
        Due.is("the name when it was written", x.node(2, 1), 0);
    }

    private static void besideOfLongNames() {
        Due.at("\"of one of more than four bytes the first four\"");
        String[][] names = {{"abcd", "abcd"}, {"abc", "abc1"}, {"ab1", "ab11"}, {"a001", "a001"}};
        for (String[] name : names) {
            for (int kind = 1; kind <= 3; kind++) {
                longName(kind, name[0], name[1]);
            }
        }
    }

    private static void longName(int kind, String own, String due) {
        NameScope x = contracted("1" + own + " 5:0 3y 0" + own + " " + kind + own + " 5:0 4 0y 0"
            + own, 2);
        x.write();
        Due.is(own + " written", Due.text(x.written(2, 1)), own + "1");
        x.again();
        Due.is("bind()", x.bind(), 7);
        Due.is("kind " + kind + ", " + own + " bound again", Due.text(x.node(2, 1)), due);
        Due.is("the outer one's name", Due.text(x.node(0, 1)), own);
        Due.is("the outer variable", x.node(5, 1), 1);
        Due.is("the inner variable", x.node(6, 1), 0);
    }

    private static void indexes() {
        Due.at("\"how many other binders .. lie within the last part of its own\"");
        Due.is("none", Due.bound("1a 5:0 0a").node(2, 1), 0);
        Due.is("each kind of binder", Due.bound("1a 5:0 1b 5:0 2c 5:0 3d 5:0 6 5:0 0a").node(10, 1),
            4);
        Due.is("no first part, no application",
            Due.bound("1a 5:0 1b 4 4 5:0 5:0 0a 5:0").node(7, 1), 0);
        Due.is("none outside", Due.bound("1b 5:0 1c 5:0 1a 5:0 0a").node(6, 1), 0);
    }

    private static void sizes() {
        Due.at("promise 7: \"how many nodes it has with its parts\"");
        NameScope great = full();
        Due.is("all", great.node(0, 2), 2999);
        Due.is("one", great.node(2998, 2), 1);
        Due.is("the last three", great.node(2996, 2), 3);
        NameScope x = contracted("4 3a 4 5:1 5:2 4 0a 0a 5:3", 1);
        int[] due = {9, 7, 3, 1, 1, 3, 1, 1, 1};
        for (int k = 0; k < due.length; k++) {
            Due.is("node(" + k + ", 2) contracted", x.node(k, 2), due[k]);
        }
    }

    private static void usesOfNoNode() {
        Due.at("promise 8: \"NONE when there is no such binder\", no node");
        NameScope great = full();
        for (int k : NO_NODES) {
            Due.is("uses(" + k + ")", great.uses(k), NONE);
            Due.is("uses(" + k + ") of no term", new NameScope().uses(k), NONE);
        }
        Due.is("uses(0) of no term", new NameScope().uses(0), NONE);
        Due.is("uses(3)", Due.bound("1a 5:0 0a").uses(3), NONE);
        NameScope laid = new NameScope();
        Due.lay(laid, "1a 5:0 0a");
        Due.is("uses(0) of what is laid only", laid.uses(0), NONE);
    }

    private static void usesOfNoBinder() {
        Due.at("promise 8: \"NONE when there is no such binder\", another node");
        NameScope x = Due.bound("1a 4 0g 5:1 0a");
        int[] due = {1, NONE, NONE, NONE, NONE};
        for (int k = 0; k < due.length; k++) {
            Due.is("uses(" + k + ")", x.uses(k), due[k]);
        }
    }

    private static void usesNever() {
        Due.at("promise 8: \"How often\", never");
        for (String nodes : new String[] {"1a 5:0 5:0", "2a 5:0 5:0", "3a 5:0 5:0", "6 5:0 5:0",
            "1a 5:0 1a 5:0 0a", "6 0g 1a 5:0 0a"}) {
            Due.is("uses(0) of " + nodes, Due.bound(nodes).uses(0), 0);
        }
    }

    private static void usesInTheLastPartOnly() {
        Due.at("promise 8: \"in its last part\"");
        for (int kind = 1; kind <= 3; kind++) {
            NameScope x = Due.bound("1a 5:0 4 " + kind + "a 4 0a 0a 4 4 0a 0a 0a 0a");
            Due.is("uses of the inner one", x.uses(3), 3);
            Due.is("uses of the outer one", x.uses(0), 3);
        }
        Due.is("of a binder in a first part", Due.bound("1a 1a 5:0 4 0a 0a 0a").uses(1), 2);
        Due.is("of the one around it", Due.bound("1a 1a 5:0 4 0a 0a 0a").uses(0), 1);
    }

    // Where a is put in, 1499 uses of b and the applications between them fill the last part.
    private static void usesAtTheMost() {
        Due.at("promise 8: \"How often\", as often as can be");
        NameScope x = Due.bound("1b 5:0 3a " + Big.chain("0b", 50) + " " + Big.chain("0a", 29)
            .replaceAll("0a$", "4 0a " + Big.chain("0b", 49)));
        Due.is("uses(0) before", x.uses(0), 99);
        Due.is("contract(2)", x.contract(2), 2999);
        Due.is("uses(0)", x.uses(0), 1499);
    }

    private static void refused(String nodes, int k) {
        Look.unchanged("contract(" + k + ") of " + nodes, () -> bound(nodes), x -> x.contract(k),
            NONE);
    }

    // With other terms kept and written, and some nodes laid.
    private static NameScope bound(String nodes) {
        NameScope x = Look.busy();
        x.drop();
        Due.lay(x, nodes);
        x.bind();
        Due.lay(x, "1c 5:0 0c");
        return x;
    }

    private static void contractOfNoNode() {
        Due.at("promise 9: \"NONE, changing nothing, when there is no such node\"");
        for (int k : NO_NODES) {
            refused("4 1a 5:0 0a 0g", k);
            Look.unchanged("contract(" + k + ") of no term", NameScope::new, x -> x.contract(k),
                NONE);
        }
        refused("4 1a 5:0 0a 0g", 5);
        refused("3a 5:0 0a", 3);
        Look.unchanged("contract(0) of no term", NameScope::new, x -> x.contract(0), NONE);
        NameScope laid = new NameScope();
        Due.lay(laid, "3a 5:0 0a");
        Due.is("contract(0) of what is laid only", laid.contract(0), NONE);
    }

    private static void contractOfOtherKinds() {
        Due.at("promise 9: \"or it can't be\", another kind");
        refused("5:0", 0);
        refused("0g", 0);
        refused("1a 5:0 0a", 0);
        refused("2a 5:0 0a", 0);
        refused("6 5:0 5:1", 0);
        refused("4 1a 5:0 0a 0g", 1);
        refused("4 1a 5:0 0a 0g", 2);
        refused("4 1a 5:0 0a 0g", 3);
        refused("4 1a 5:0 0a 0g", 4);
        refused("3a 5:0 0a", 1);
        refused("3a 5:0 0a", 2);
        refused("6 1a 5:0 0a 0g", 0);
    }

    private static void contractOfOtherFirstParts() {
        Due.at("promise 9: \"or it can't be\", an application of another kind");
        refused("4 2a 5:0 0a 0g", 0);
        refused("4 3a 5:0 0a 0g", 0);
        refused("4 6 5:0 5:1 0g", 0);
        refused("4 0g 1a 5:0 0a", 0);
        refused("4 5:0 1a 5:0 0a", 0);
        refused("4 4 1a 5:0 0a 0g 0h", 0);
        refused("1b 5:0 4 0b 1a 5:0 0a", 2);
    }

    private static void contractToTheFewest() {
        Due.at("promise 9: \"how many nodes the term has\", one");
        Due.is("a fun that uses it", Due.bound("4 1a 5:0 0a 5:1").contract(0), 1);
        Due.is("a fun that does not", Due.bound("4 1a 5:0 5:2 5:1").contract(0), 1);
        Due.is("a let that uses it", Due.bound("3a 5:1 0a").contract(0), 1);
        Due.is("a let that does not", Due.bound("3a 5:1 5:2").contract(0), 1);
    }

    // As Big.sum, but a fun of a that is applied to what the let has for a.
    private static String applied(int nodes) {
        String[] let = Big.sum(nodes).split(" ", 2);
        String value = Big.chain("5:1", 50);
        return "4 1a 5:0 " + let[1].substring(value.length() + 1) + " " + value;
    }

    private static void contractToTheMost() {
        Due.at("promise 9: \"when there would be more than 3000\", not so");
        Due.is("a let to 2999", Due.bound(Big.sum(2999)).contract(0), 2999);
        Due.is("a fun to 2999", Due.bound(applied(2999)).contract(0), 2999);
        NameScope x = Due.bound("4 5:3 " + Big.sum(2997));
        Due.is("an inner let to 2999", x.contract(2), 2999);
        Due.is("the last node", x.node(2998, 1), 2);
        x = Due.bound("6 " + applied(2997) + " 5:3");
        Due.is("an inner fun to 2999", x.contract(1), 2999);
        Due.is("the last node", x.node(2998, 1), 3);
    }

    // A term has an odd number of nodes, so 3001 is the least number that is too great.
    private static void contractBeyondTheMost() {
        Due.at("promise 9: \"FULL, changing nothing, when there would be more than 3000\"");
        full("a let to 3001", Big.sum(3001), 0);
        full("a fun to 3001", applied(3001), 0);
        full("an inner let to 3001", "4 5:3 " + Big.sum(2999), 2);
        full("an inner fun to 3001", "6 " + applied(2999) + " 5:3", 1);
    }

    private static void full(String what, String nodes, int k) {
        Look.unchanged(what, () -> Due.bound(nodes), x -> x.contract(k), FULL);
        NameScope x = Due.bound(nodes);
        Due.lay(x, "1a 5:0 0a");
        int count = x.nodes();
        Due.is(what, x.contract(k), FULL);
        Due.is(what + " once more", x.contract(k), FULL);
        Due.is("nodes()", x.nodes(), count);
        Due.is("uses()", x.uses(x.node(k, 0) == 3 ? k : k + 1) > 0, true);
        Due.is("drop()", x.drop(), 3);
    }

    // The let that is left has a first part of 2047 nodes, and uses it twice.
    private static NameScope doubled() {
        NameScope x = Due.bound(Big.doubled("4 0j 0j"));
        x.write();
        for (int i = 0; i < 9; i++) {
            Due.is("contract(0)", x.contract(0) > 0, true);
        }
        x.keep();
        return x;
    }

    private static void contractFarBeyondTheMost() {
        Due.at("promise 9: \"FULL, changing nothing\", far more than 3000");
        Due.is("nodes()", doubled().nodes(), 1 + 2047 + 3);
        Look.unchanged("contract(0)", EdgesOfTermsTest::doubled, x -> x.contract(0), FULL);
        String many = "3a " + Big.chain("5:1", 77) + " " + Big.chain("0a", 77);
        Look.unchanged("153 nodes 77 times", () -> Due.bound(many), x -> x.contract(0), FULL);
    }

    private static void contractOfTooManyThatCannotBe() {
        Due.at("promise 9: NONE and not FULL where no node can be contracted");
        for (int k : new int[] {-1, 1, 2, 2048, 2050, 2051, 3000, Integer.MAX_VALUE}) {
            Look.unchanged("contract(" + k + ")", EdgesOfTermsTest::doubled, x -> x.contract(k),
                NONE);
        }
    }

    private static void contractAtTheMost() {
        Due.at("promise 9: a term of as many nodes as can be");
        NameScope x = Due.bound("4 1z 5:0 " + Big.sum(2995) + " 5:0");
        Due.is("contract(3)", x.contract(3), 2999);
        Due.is("contract(2998)", x.contract(2998), NONE);
        Due.is("contract(2999)", x.contract(2999), NONE);
        Due.is("contract(0)", x.contract(0), 2995);
        Due.is("the last node", x.node(2994, 1), 2);
        Due.is("none behind it", x.node(2995, 1), NONE);
    }

    private static void contractAtBothEnds() {
        Due.at("promise 9: \"Node k of the term is contracted\", the first and the last");
        after("3a 0g 0a", 0, "7:0");
        after("4 5:1 3a 0g 4 0a 0a", 2, "4 5:1 4 7:0 7:0");
        after("4 3a 0g 4 0a 0a 5:1", 1, "4 4 7:0 7:0 5:1");
        after("4 5:1 4 1a 5:0 4 0a 0a 0g", 2, "4 5:1 4 7:0 7:0");
    }

    private static void after(String nodes, int k, String due) {
        NameScope x = contracted(nodes, k);
        Due.is("contract(" + k + ") of " + nodes, Due.term(x), due);
    }

    private static void variableUsedNever() {
        Due.at("\"it becomes the last part of the fun or the let\", which does not use it");
        after("1x 5:0 4 1a 5:0 0x 0x", 2, "1x 5:0 0:0");
        after("1x 5:0 3a 0x 1b 5:0 0x", 2, "1x 5:0 1b 5:0 0:1");
        after("1x 5:0 3a 0x 5:1", 2, "1x 5:0 5:1");
    }

    private static void otherVariablesMeanWhatTheyMeant() {
        Due.at("\"all other variables mean what they meant\"");
        // Inside the last part, just outside it, and farther outside.
        after("1x 5:0 1y 5:0 3a 5:1 1b 5:0 4 0b 4 0y 0x", 4,
            "1x 5:0 1y 5:0 1b 5:0 4 0:0 4 0:1 0:2");
        // Inside what is put in, just outside it, and farther outside, behind no binder or more.
        after("1x 5:0 1y 5:0 3a 1b 5:0 4 0b 4 0y 0x 0a", 4,
            "1x 5:0 1y 5:0 1b 5:0 4 0:0 4 0:1 0:2");
        after("1x 5:0 1y 5:0 3a 1b 5:0 4 0b 4 0y 0x 6 5:2 2c 5:3 4 0a 0c", 4,
            "1x 5:0 1y 5:0 2- 5:2 2c 5:3 4 1b 5:0 4 0:0 4 0:3 0:4 0:0");
        // Before it and behind it.
        after("1x 5:0 4 0x 4 3a 5:1 0a 0x", 5, "1x 5:0 4 0:0 4 5:1 0:0");
    }
}
