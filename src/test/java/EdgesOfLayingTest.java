/**
 * Promises 1 to 5 and what the document says of names, at their edges: a test for each sentence
 * that names one.
 */
public final class EdgesOfLayingTest {
    private static final int NONE = NameScope.NONE;

    public static void main(String[] args) {
        lastCall();
        bytesOfNames();
        namesTooLongOrTooShort();
        namesWithOtherBytes();
        noGlobals();
        noNodesLaid();
        noTerm();
        noneKept();
        noneWritten();
        numbersOfGlobals();
        globalsThatCannotBeGiven();
        globalsThatAnotherHas();
        tooManyGlobals();
        firstAndLastKind();
        kindsThatAreNone();
        besidesOfNames();
        besidesOfSorts();
        besidesOfApplicationsAndArrows();
        tooManyNodes();
        dropOfNone();
        dropOfAll();
        dropChangesNothingElse();
        bindOfNone();
        bindOfTooFew();
        bindOfTooMany();
        bindOfTheFewest();
        bindOfTheMost();
        bindLeavesNoneLaid();
        firstNodeThatMeansNothing();
        lastNodeThatMeansNothing();
        firstOfSeveralThatMeanNothing();
        namesOutsideTheLastPart();
        meaninglessAndNoTerm();
        innermostAndOutermost();
        variableBeforeGlobal();
        Due.end();
    }

    private static void lastCall() {
        Due.at("\"at most 512 calls\"");
        NameScope x = new NameScope();
        for (int call = 1; call <= 512; call++) {
            Due.is("lay() as call " + call, x.lay(call % 2 == 1 ? 4 : 5, 0), call);
        }
        x = new NameScope();
        Due.lay(x, Big.chain("5:7", 254));
        Due.is("bind(), call 508", x.bind(), 507);
        Due.is("write(), call 509", x.write(), 507);
        Due.is("again(), call 510", x.again(), 507);
        Due.is("bind(), call 511", x.bind(), 507);
        Due.is("node(506, 1), call 512", x.node(506, 1), 7);
    }

    private static boolean canBeLetter(int letter, boolean isFirst) {
        return letter >= 'a' && letter <= 'z' || !isFirst && letter >= '0' && letter <= '9';
    }

    private static void given(String what, long name, boolean isGood) {
        Due.is("global(" + what + ")", new NameScope().global(name), isGood ? 0 : NONE);
        for (int kind = 0; kind <= 3; kind++) {
            Due.is("lay(" + kind + ", " + what + ")", new NameScope().lay(kind, name),
                isGood ? 1 : NONE);
        }
    }

    // Every byte in every place of names of all lengths that can be given.
    private static void bytesOfNames() {
        Due.at("\"each is a small letter, or, but for the first one, a digit\"");
        for (int length = 1; length <= 4; length++) {
            for (int place = 0; place < length; place++) {
                for (int letter = 0; letter < 256; letter++) {
                    int shift = 8 * (length - 1 - place);
                    long others = Due.name("bcde".substring(0, length)) & ~(255L << shift);
                    // A first byte of 0 is none: the name is a shorter one then.
                    boolean isGood = letter == 0 && place == 0 ? length > 1
                        : canBeLetter(letter, place == 0);
                    given("byte " + letter + " at " + place + " of " + length,
                        others | (long) letter << shift, isGood);
                }
            }
        }
    }

    private static void namesTooLongOrTooShort() {
        Due.at("\"A name that is GIVEN has at most four\"");
        given("no byte", 0, false);
        for (int length = 1; length <= 8; length++) {
            given(length + " letters", Due.name("abcdefgh".substring(0, length)), length <= 4);
            given(length + " with digits", Due.name("z0192837".substring(0, length)), length <= 4);
        }
    }

    private static void namesWithOtherBytes() {
        Due.at("\"A NAME is a long\"");
        long[] bad = {-1, Long.MIN_VALUE, Long.MAX_VALUE, Integer.MIN_VALUE, 'a' | 1L << 63,
            'a' | 1L << 32, 'a' - 256, -'a', (long) 'a' << 32, (long) 'a' << 56,
            0xffffffff00000000L | 'a', Due.name("abcd") | 1L << 40, ~(long) 'a'};
        for (long name : bad) {
            given(Long.toString(name), name, false);
        }
    }

    private static void noGlobals() {
        Due.at("promise 1: \"No globals\"");
        NameScope x = new NameScope();
        Due.lay(x, "0g");
        Due.is("bind() of a name", x.bind(), -2);
        Due.is("the first global", x.global('g'), 0);
    }

    private static void noNodesLaid() {
        Due.at("promise 1: \"no nodes laid\"");
        Due.is("drop()", new NameScope().drop(), 0);
        Due.is("bind()", new NameScope().bind(), NONE);
        Due.is("the first one laid", new NameScope().lay(5, 0), 1);
    }

    private static void noTerm() {
        Due.at("promise 1: \"no term\"");
        Due.is("nodes()", new NameScope().nodes(), 0);
        Due.is("node(0, 0)", new NameScope().node(0, 0), NONE);
        Due.is("uses(0)", new NameScope().uses(0), NONE);
        Due.is("contract(0)", new NameScope().contract(0), NONE);
        Due.is("write()", new NameScope().write(), NONE);
        Due.is("keep()", new NameScope().keep(), 0);
    }

    private static void noneKept() {
        Due.at("promise 1: \"none kept\"");
        Due.is("same()", new NameScope().same(), true);
        Due.is("same() with a term", Due.bound("5:0").same(), false);
    }

    private static void noneWritten() {
        Due.at("promise 1: \"none written\"");
        Due.is("written(0, 0)", new NameScope().written(0, 0), NONE);
        Due.is("written(0, 1)", new NameScope().written(0, 1), NONE);
        Due.is("again()", new NameScope().again(), 0);
        Due.is("written(0, 0) with a term", Due.bound("5:0").written(0, 0), NONE);
    }

    private static void addGlobals(NameScope x, int count) {
        for (int g = 0; g < count; g++) {
            Due.is("global n" + g, x.global(Due.name("n" + g)), g);
        }
    }

    private static NameScope withGlobals(int count) {
        NameScope x = new NameScope();
        addGlobals(x, count);
        return x;
    }

    private static void numbersOfGlobals() {
        Due.at("promise 2: \"GLOBALS are numbered 0, 1, .. as they come\"");
        NameScope x = withGlobals(200);
        Due.lay(x, "4 0n0 4 0n1 4 0n198 0n199");
        Due.is("bind()", x.bind(), 7);
        Due.is("the term", Due.term(x), "4 7:0 4 7:1 4 7:198 7:199");
        x.write();
        Due.is("written", Due.paper(x), "4 0n0 4 0n1 4 0n198 0n199");
    }

    private static void globalsThatCannotBeGiven() {
        Due.at("promise 2: \"its name is none that can be given\"");
        long[] bad = {0, '9', 'A', Due.name("1a"), Due.name("abcde"), -1, Long.MIN_VALUE};
        for (long name : bad) {
            Look.unchanged("global(" + name + ")", Look::busy, x -> x.global(name), NONE);
        }
        Due.is("the next good one", withGlobals(0).global(Due.name("abcd")), 0);
    }

    private static void globalsThatAnotherHas() {
        Due.at("promise 2: \"another one has it\"");
        for (char name : new char[] {'g', 'h', 'k'}) {
            Look.unchanged("global(" + name + ")", Look::busy, x -> x.global(name), NONE);
        }
        Due.is("a name that binders have only", Look.busy().global('b'), 3);
        Due.is("a name that begins like another's", Look.busy().global(Due.name("g0")), 3);
        NameScope x = withGlobals(199);
        Due.is("the first one's", x.global(Due.name("n0")), NONE);
        Due.is("the last one's", x.global(Due.name("n198")), NONE);
        Due.is("the 200th", x.global(Due.name("n199")), 199);
    }

    private static void tooManyGlobals() {
        Due.at("promise 2: \"or there are 200\"");
        Due.is("the 200th", withGlobals(199).global('m'), 199);
        Look.unchanged("the 201st", () -> withGlobals(200), x -> x.global('m'), NONE);
        NameScope x = withGlobals(200);
        Due.is("the 201st", x.global('m'), NONE);
        Due.is("the 201st once more", x.global('m'), NONE);
        Due.is("the 200th's name", x.global(Due.name("n199")), NONE);
        Due.is("a bad name", x.global(0), NONE);
        Due.lay(x, "4 0n199 0m");
        Due.is("the 201st means nothing", x.bind(), -2 - 2);
    }

    private static void firstAndLastKind() {
        Due.at("promise 3: \"Lays a node behind those that were laid: how many there are\"");
        NameScope x = new NameScope();
        Due.is("kind 0", x.lay(0, 'a'), 1);
        Due.is("kind 6", x.lay(6, 0), 2);
        Due.is("drop()", x.drop(), 2);
        Due.is("from the start again", x.lay(0, 'a'), 1);
    }

    private static void kindsThatAreNone() {
        Due.at("promise 3: \"kind is not 0 .. 6\"");
        int[] bad = {-1, 7, 8, 256, 261, 65536, -6, Integer.MIN_VALUE, Integer.MAX_VALUE};
        for (int kind : bad) {
            Look.unchanged("lay(" + kind + ", 0)", Look::busy, x -> x.lay(kind, 0), NONE);
            Look.unchanged("lay(" + kind + ", a)", Look::busy, x -> x.lay(kind, 'a'), NONE);
        }
    }

    private static void besidesOfNames() {
        Due.at("promise 3: \"names given\"");
        long[] bad = {0, 5, '0', 'A', Due.name("0a"), Due.name("abcde"), -1, Long.MAX_VALUE};
        for (int kind = 0; kind <= 3; kind++) {
            int each = kind;
            for (long name : bad) {
                Look.unchanged("lay(" + kind + ", " + name + ")", Look::busy,
                    x -> x.lay(each, name), NONE);
            }
            Due.is("with four bytes", Look.busy().lay(kind, Due.name("zz09")), 4);
        }
    }

    private static void besidesOfSorts() {
        Due.at("promise 3: \"a sort: a number 0 .. 100\"");
        Due.is("sort 0", Look.busy().lay(5, 0), 4);
        Due.is("sort 100", Look.busy().lay(5, 100), 4);
        long[] bad = {-1, 101, 256, -100, 1L << 32, 1L << 63, 50 | 1L << 32, Long.MAX_VALUE, 'z'};
        for (long number : bad) {
            Look.unchanged("sort " + number, Look::busy, x -> x.lay(5, number), NONE);
        }
        Due.is("they stay as they are", Due.term(Due.bound("4 5:0 5:100")), "4 5:0 5:100");
    }

    private static void besidesOfApplicationsAndArrows() {
        Due.at("promise 3: \"0 for 4 and 6\"");
        for (int kind : new int[] {4, 6}) {
            Due.is("lay(" + kind + ", 0)", Look.busy().lay(kind, 0), 4);
            for (long bad : new long[] {1, -1, 'a', 256, 1L << 32, Long.MIN_VALUE}) {
                Look.unchanged("lay(" + kind + ", " + bad + ")", Look::busy,
                    x -> x.lay(kind, bad), NONE);
            }
        }
    }

    // So many can be laid only behind those that were written.
    private static NameScope full() {
        NameScope x = Due.bound(Big.sum(2999));
        Big.grow(x);
        x.write();
        Due.is("again()", x.again(), 2999);
        return x;
    }

    private static void tooManyNodes() {
        Due.at("promise 3: \"or there would be more than 3000\"");
        NameScope x = full();
        Due.is("a bad one", x.lay(7, 0), NONE);
        Due.is("the 3000th", x.lay(1, 'a'), 3000);
        for (int kind = 0; kind <= 6; kind++) {
            Due.is("the 3001st, of kind " + kind, x.lay(kind, kind < 4 ? 'a' : 0), NONE);
        }
        Due.is("drop()", x.drop(), 3000);
        Due.is("then one can be laid", x.lay(5, 0), 1);
        Due.is("and bound", x.bind(), 1);
    }

    private static void dropOfNone() {
        Due.at("promise 4: \"how many there were\", none");
        Due.is("drop() twice", twice(Look.busy()), 3);
    }

    private static int twice(NameScope x) {
        return x.drop() + x.drop();
    }

    private static void dropOfAll() {
        Due.at("promise 4: \"how many there were\", as many as can be");
        NameScope x = full();
        x.lay(5, 0);
        Due.is("drop()", x.drop(), 3000);
        Due.is("drop() once more", x.drop(), 0);
        Due.is("bind()", x.bind(), NONE);
    }

    private static void dropChangesNothingElse() {
        Due.at("promise 4: \"The nodes that were laid are none then\"");
        NameScope x = Look.busy();
        Due.is("drop()", x.drop(), 3);
        Due.is("nodes()", x.nodes(), 7);
        Due.is("written", Due.paper(x), "6 0g 0h");
        Due.is("same()", x.same(), false);
        Due.is("the next global", x.global('m'), 3);
        Due.lay(x, "1c 5:0 0c");
        Due.is("bind()", x.bind(), 3);
        Due.is("the kept one", x.same(), true);
    }

    private static void bindOfNone() {
        Due.at("promise 5: \"when they are not just one term\", none laid");
        Look.unchanged("bind()", NameScope::new, NameScope::bind, NONE);
        Look.unchanged("bind() with a term", EdgesOfLayingTest::dropped, NameScope::bind, NONE);
    }

    private static NameScope dropped() {
        NameScope x = Look.busy();
        x.drop();
        return x;
    }

    private static void bindOfTooFew() {
        Due.at("promise 5: \"when they are not just one term\", too few");
        String[] few = {"1a", "2a", "3a", "4", "6", "1a 0g", "2a 0g", "3a 0g", "4 0g", "6 0g",
            "4 1a 0g 0a", "1a 4 0g 0g", "4 4 0g 0g", "4 0g 4 0g"};
        for (String nodes : few) {
            Look.unchanged("bind() of " + nodes, () -> Look.busy(nodes), NameScope::bind, NONE);
        }
    }

    private static void bindOfTooMany() {
        Due.at("promise 5: \"when they are not just one term\", too many");
        String[] many = {"0g 0g", "5:0 5:0", "0g 4", "0g 1a", "4 0g 0g 0g", "1a 0g 0a 0g",
            "2a 0g 0a 0g", "3a 0g 0a 0g", "6 0g 0g 0g", "0g 4 0g 0g", "4 0g 0g 4 0g 0g"};
        for (String nodes : many) {
            Look.unchanged("bind() of " + nodes, () -> Look.busy(nodes), NameScope::bind, NONE);
        }
    }

    private static void bindOfTheFewest() {
        Due.at("promise 5: \"Answers how many nodes it has\", one");
        Due.is("a sort", Due.term(Due.bound("5:100")), "5:100");
        Due.is("a global", Due.term(Due.bound("0k")), "7:2");
    }

    private static void bindOfTheMost() {
        Due.at("promise 5: \"Answers how many nodes it has\", as many as can be");
        NameScope x = full();
        Due.is("bind() of 2999", x.bind(), 2999);
        Due.is("nodes()", x.nodes(), 2999);
        Due.is("drop()", x.drop(), 0);
        x.again();
        x.lay(5, 0);
        Due.is("bind() of 3000", x.bind(), NONE);
        Due.is("nodes() still", x.nodes(), 2999);
        Due.is("drop() then", x.drop(), 3000);
    }

    private static void bindLeavesNoneLaid() {
        Due.at("promise 5: \"none are laid any more\"");
        NameScope x = Look.busy();
        Due.is("bind()", x.bind(), 3);
        Due.is("bind() once more", x.bind(), NONE);
        Due.is("drop()", x.drop(), 0);
        Due.is("lay", x.lay(5, 0), 1);
    }

    private static void meansNothing(String nodes, int first) {
        Look.unchanged("bind() of " + nodes, () -> Look.busy(nodes), NameScope::bind, -2 - first);
    }

    private static void firstNodeThatMeansNothing() {
        Due.at("promise 5: \"-2 less the first node of which the name means nothing\", the first");
        meansNothing("0z", 0);
        meansNothing("4 0z 0g", 1);
    }

    private static void lastNodeThatMeansNothing() {
        Due.at("promise 5: \"-2 less the first node of which the name means nothing\", the last");
        meansNothing("4 0g 0z", 2);
        meansNothing("6 4 0g 0g 4 0g 0z", 6);
        NameScope x = new NameScope();
        Due.lay(x, Big.chain("5:0", 250).replaceAll("5:0$", "0z"));
        Due.is("bind() of 499 nodes", x.bind(), -2 - 498);
        Due.is("drop()", x.drop(), 499);
    }

    private static void firstOfSeveralThatMeanNothing() {
        Due.at("promise 5: \"the first node of which the name means nothing\", of several");
        meansNothing("4 0g 4 0y 4 0z 0y", 3);
        meansNothing("1a 0z 1b 0y 0c", 1);
        NameScope x = Look.busy("4 0g 4 0y 4 0z 0y");
        x.global('y');
        Due.is("bind() with y", x.bind(), -2 - 5);
        x.global('z');
        Due.is("bind() with z, too", x.bind(), 7);
        Due.is("the term", Due.term(x), "4 7:0 4 7:3 4 7:4 7:3");
    }

    private static void namesOutsideTheLastPart() {
        Due.at("\"in the last of which it is bound\"");
        for (int kind = 1; kind <= 3; kind++) {
            meansNothing(kind + "z 0z 0z", 1);
            meansNothing("4 " + kind + "z 0g 0z 0z", 4);
            meansNothing(kind + "z 4 0g 0z 0z", 3);
        }
    }

    private static void meaninglessAndNoTerm() {
        Due.at("promise 5: \"NONE, changing nothing, when they are not just one term\"");
        for (String nodes : new String[] {"4 0z", "0z 0z", "1z 0z", "0z 0g"}) {
            Look.unchanged("bind() of " + nodes, () -> Look.busy(nodes), NameScope::bind, NONE);
        }
    }

    private static void innermostAndOutermost() {
        Due.at("\"the innermost variable that is bound by it there\"");
        StringBuilder nodes = new StringBuilder("1o 5:0 ");
        nodes.append("1i 5:0 ".repeat(100));
        NameScope x = Due.bound(nodes + "4 0i 0o");
        Due.is("the innermost of one name", x.node(203, 1), 0);
        Due.is("the outermost of all", x.node(204, 1), 100);
    }

    private static void variableBeforeGlobal() {
        Due.at("\"or else the global that has it\"");
        for (int kind = 1; kind <= 3; kind++) {
            Due.is("kind " + kind, Due.term(Due.bound("4 " + kind + "g 0g 0g 0g")),
                "4 " + kind + "g 7:0 0:0 7:0");
        }
    }
}
