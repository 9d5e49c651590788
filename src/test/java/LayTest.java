/** Promises 1 to 5: a new object, global, lay, drop, bind. */
public final class LayTest {
    private static final int NONE = NameScope.NONE;

    public static void main(String[] args) {
        newObject();
        globals();
        manyGlobals();
        laying();
        manyNodes();
        dropping();
        binding();
        indexes();
        bindingWhatIsNoTerm();
        bindingWhatMeansNothing();
        Due.end();
    }

    private static void newObject() {
        Due.at("promise 1");
        Due.is("nodes()", new NameScope().nodes(), 0);
        Due.is("drop()", new NameScope().drop(), 0);
        Due.is("bind()", new NameScope().bind(), NONE);
        Due.is("write()", new NameScope().write(), NONE);
        Due.is("written(0, 0)", new NameScope().written(0, 0), NONE);
        Due.is("node(0, 0)", new NameScope().node(0, 0), NONE);
        Due.is("again()", new NameScope().again(), 0);
        Due.is("keep()", new NameScope().keep(), 0);
        Due.is("same()", new NameScope().same(), true);
        Due.is("the first global", new NameScope().global('a'), 0);
        Due.is("the first node", new NameScope().lay(5, 0), 1);
        NameScope first = Due.bound("0g");
        first.keep();
        first.write();
        NameScope second = new NameScope();
        Due.is("another object's nodes()", second.nodes(), 0);
        Due.is("another object's global(g)", second.global('g'), 0);
    }

    private static void globals() {
        Due.at("promise 2");
        NameScope x = new NameScope();
        String[] good = {"a", "z", "a0", "z9", "ab", "abc", "a1b2", "zzzz", "a999"};
        for (int i = 0; i < good.length; i++) {
            Due.is("global(" + good[i] + ")", x.global(Due.name(good[i])), i);
            Due.is("global(" + good[i] + ") once more", x.global(Due.name(good[i])), NONE);
        }
        String[] bad = {"", "0", "9", "1a", "A", "Z", "aA", "a_", "a b", "{", "`", "a{", "a`",
            "a/", "a:", "abcde", "abcdefgh", "a\0", "a\0b", "\u00ffa", "b\0\0\0", "ab\0\0\0\0"};
        for (String name : bad) {
            Due.is("global(" + name + ")", x.global(Due.name(name)), NONE);
        }
        long[] numbers = {0, -1, Long.MIN_VALUE, Long.MAX_VALUE, 1, 255, 256, 0xffffffffL,
            0x100000000L + 'b', 'b' | 1L << 63};
        for (long number : numbers) {
            Due.is("global(" + number + ")", x.global(number), NONE);
        }
        Due.is("global(b) then", x.global('b'), good.length);
    }

    private static void manyGlobals() {
        Due.at("promise 2, 200 globals");
        NameScope x = new NameScope();
        for (int g = 0; g < 200; g++) {
            Due.is("global n" + g, x.global(Due.name("n" + g)), g);
        }
        Due.is("the 201st", x.global(Due.name("m")), NONE);
        Due.lay(x, "4 0n0 0n199");
        Due.is("bind()", x.bind(), 3);
        Due.is("the term", Due.term(x), "4 7:0 7:199");
        x.write();
        Due.is("written", Due.paper(x), "4 0n0 0n199");
        Due.lay(x, "0m");
        Due.is("bind() of the 201st", x.bind(), -2);
    }

    private static void laying() {
        Due.at("promise 3");
        NameScope x = new NameScope();
        int count = 0;
        for (int kind = 0; kind <= 3; kind++) {
            Due.is("kind " + kind + " with a", x.lay(kind, 'a'), ++count);
            Due.is("kind " + kind + " with ab12", x.lay(kind, Due.name("ab12")), ++count);
            for (String bad : new String[] {"", "1", "abcde", "aB", "a\0", "a-"}) {
                Due.is("kind " + kind + " with " + bad, x.lay(kind, Due.name(bad)), NONE);
            }
            Due.is("kind " + kind + " with -1", x.lay(kind, -1), NONE);
        }
        Due.is("sort 0", x.lay(5, 0), ++count);
        Due.is("sort 100", x.lay(5, 100), ++count);
        for (long bad : new long[] {-1, 101, 1L << 32, Long.MIN_VALUE, Long.MAX_VALUE}) {
            Due.is("sort " + bad, x.lay(5, bad), NONE);
        }
        for (int kind = 4; kind <= 6; kind += 2) {
            Due.is("kind " + kind, x.lay(kind, 0), ++count);
            for (long bad : new long[] {1, -1, 'a', 1L << 32, Long.MIN_VALUE}) {
                Due.is("kind " + kind + " with " + bad, x.lay(kind, bad), NONE);
            }
        }
        for (int bad : new int[] {-1, 7, 8, Integer.MIN_VALUE, Integer.MAX_VALUE}) {
            Due.is("kind " + bad + " with 0", x.lay(bad, 0), NONE);
            Due.is("kind " + bad + " with a", x.lay(bad, 'a'), NONE);
        }
        Due.is("drop()", x.drop(), count);
    }

    // Behind 2999 nodes that were written just one node more can be laid.
    private static void manyNodes() {
        Due.at("promise 3, 3000 nodes");
        NameScope x = Due.bound(Big.sum(2999));
        Big.grow(x);
        Due.is("nodes()", x.nodes(), 2999);
        x.write();
        Due.is("again()", x.again(), 2999);
        Due.is("lay of too great a sort", x.lay(5, 101), NONE);
        Due.is("lay the 3000th", x.lay(5, 1), 3000);
        Due.is("lay the 3001st", x.lay(5, 1), NONE);
        Due.is("bind() of too many", x.bind(), NONE);
        Due.is("nodes() then", x.nodes(), 2999);
        Due.is("drop()", x.drop(), 3000);
    }

    private static void dropping() {
        Due.at("promise 4");
        NameScope x = Due.bound("1a 5:0 0a");
        x.keep();
        x.write();
        Due.lay(x, "4 5:1");
        Due.is("drop()", x.drop(), 2);
        Due.is("drop() again", x.drop(), 0);
        Due.is("bind() of none", x.bind(), NONE);
        Due.is("the term", Due.term(x), "1a 5:0 0:0");
        Due.is("written", Due.paper(x), "1a 5:0 0a");
        Due.is("same()", x.same(), true);
        Due.is("lay", x.lay(5, 9), 1);
        Due.is("bind()", x.bind(), 1);
        Due.is("the new term", Due.term(x), "5:9");
    }

    private static void binding() {
        Due.at("promise 5");
        NameScope x = Due.bound("0g");
        Due.is("a global", Due.term(x), "7:0");
        Due.is("drop() behind bind()", x.drop(), 0);
        Due.is("bind() behind bind()", x.bind(), NONE);
        Due.lay(x, "4 0k 5:100");
        Due.is("bind()", x.bind(), 3);
        Due.is("in place of the first", Due.term(x), "4 7:2 5:100");
        Due.is("an arrow", Due.term(Due.bound("6 0g 5:3")), "2- 7:0 5:3");
        Due.is("all kinds", Due.term(Due.bound("3a 5:1 2b 0a 1c 6 0b 0g 4 0c 0a")),
            "3a 5:1 2b 0:0 1c 2- 0:0 7:0 4 0:0 0:2");
        Due.is("a name bound by a global's", Due.term(Due.bound("4 1g 0g 0g 0g")),
            "4 1g 7:0 0:0 7:0");
    }

    private static void indexes() {
        Due.at("promise 5, indexes");
        for (int kind = 1; kind <= 3; kind++) {
            String binder = kind + "a";
            Due.is(binder + " in the last part", Due.term(Due.bound(binder + " 5:0 0a")),
                binder + " 5:0 0:0");
            Due.is(binder + " not in the first", Due.bound("1a 5:0 " + binder + " 0a 0a")
                .node(3, 1), 0);
            Due.is(binder + " counts", Due.term(Due.bound("1b 5:0 " + binder + " 0b 0b")),
                "1b 5:0 " + binder + " 0:0 0:1");
            Due.is(binder + " hides", Due.term(Due.bound("1a 5:0 " + binder + " 5:0 4 0a 0a")),
                "1a 5:0 " + binder + " 5:0 4 0:0 0:0");
        }
        Due.is("an arrow counts", Due.term(Due.bound("1a 5:0 6 0a 6 0a 0a")),
            "1a 5:0 2- 0:0 2- 0:1 0:2");
        Due.is("scopes end", Due.term(Due.bound("1a 5:0 4 1b 5:0 1c 5:0 0a 1d 5:0 4 0a 0d")),
            "1a 5:0 4 1b 5:0 1c 5:0 0:2 1d 5:0 4 0:1 0:0");
        Due.is("binders in first parts", Due.term(Due.bound("1a 1b 5:0 0b 1c 2a 0a 0a 4 0a 0c")),
            "1a 1b 5:0 0:0 1c 2a 0:0 0:0 4 0:1 0:0");
    }

    private static void bindingWhatIsNoTerm() {
        Due.at("promise 5, no term");
        String[] none = {"4", "4 5:0", "5:0 5:0", "4 5:0 5:0 5:0", "1a", "1a 5:0", "2a 5:0",
            "3a 5:0", "6 5:0", "4 4 5:0 5:0", "0g 0g", "0z 0z", "5:0 4", "4 0z", "5:0 1a 5:0 0a"};
        for (String nodes : none) {
            NameScope x = Due.bound("1a 5:0 0a");
            Due.lay(x, nodes);
            Due.is("bind() of " + nodes, x.bind(), NONE);
            Due.is("the term", Due.term(x), "1a 5:0 0:0");
            Due.is("uses(0)", x.uses(0), 1);
            Due.is("drop()", x.drop(), nodes.split(" ").length);
        }
        NameScope x = new NameScope();
        Due.lay(x, "4 5:1");
        Due.is("bind() too early", x.bind(), NONE);
        Due.lay(x, "5:2");
        Due.is("bind() in time", x.bind(), 3);
    }

    private static void bindingWhatMeansNothing() {
        Due.at("promise 5, names without meaning");
        String[] lost = {"0z", "4 0z 0y", "4 0g 0z", "1z 0z 0z", "4 1z 5:0 0z 0z", "6 0g 4 0g 0z"};
        int[] first = {0, 1, 2, 1, 4, 4};
        for (int i = 0; i < lost.length; i++) {
            NameScope x = Due.bound("1a 5:0 0a");
            Due.lay(x, lost[i]);
            Due.is("bind() of " + lost[i], x.bind(), -2 - first[i]);
            Due.is("the term", Due.term(x), "1a 5:0 0:0");
            Due.is("node(0, 2)", x.node(0, 2), 3);
            x.global('y');
            x.global('z');
            Due.is("bind() with z", x.bind(), lost[i].split(" ").length);
        }
    }
}
