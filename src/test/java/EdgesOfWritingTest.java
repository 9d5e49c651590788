/**
 * Promises 10 to 14 and what the document says of names that are written, at their edges: a test
 * for each sentence that names one.
 */
public final class EdgesOfWritingTest {
    private static final int NONE = NameScope.NONE;
    private static final int[] NO_NODES = {-1, -2, 2999, 3000, 3001, 65536, Integer.MIN_VALUE,
        Integer.MIN_VALUE + 1, Integer.MAX_VALUE, Integer.MAX_VALUE - 1};
    private static final int[] NO_WHATS = {-1, 2, 3, 256, 65536, Integer.MIN_VALUE,
        Integer.MAX_VALUE};

    public static void main(String[] args) {
        writeOfNoTerm();
        writeOfTheFewestAndTheMost();
        writeInPlace();
        arrowsThatAreUsedNeverOrOnce();
        nameOfAGlobalInTheLastPart();
        nameOfAGlobalElsewhere();
        nameOfAnOuterVariableInTheLastPart();
        nameOfAnOuterVariableElsewhere();
        nameThatAnOuterVariableIsWrittenWith();
        leastNumber();
        numbersOfMoreDigits();
        numbersWithZerosInFront();
        binderThatIsNotUsed();
        longestNames();
        writtenOfNothing();
        writtenOfNoNode();
        writtenOfNoWhat();
        writtenBesideNothing();
        againOfNothing();
        againInPlaceOfFewerOrMore();
        againOfTheMost();
        againOfLongNames();
        longNamesCannotBeGiven();
        keepOfNone();
        keepOfTheFewestAndTheMost();
        keepInPlace();
        sameOfNoneAndNone();
        sameOfNoneAndOne();
        sameButForNames();
        sameOfTheMost();
        notTheSame();
        Due.end();
    }

    private static NameScope full() {
        NameScope x = Due.bound(Big.sum(2999));
        Big.grow(x);
        return x;
    }

    private static void writeOfNoTerm() {
        Due.at("promise 10: \"NONE, changing nothing, when there is no term\"");
        Look.unchanged("write()", NameScope::new, NameScope::write, NONE);
        Look.unchanged("write() with nodes laid", () -> laid("1a 5:0 0a"), NameScope::write, NONE);
        Look.unchanged("write() when none was bound", EdgesOfWritingTest::notBound,
            NameScope::write, NONE);
    }

    private static NameScope laid(String nodes) {
        NameScope x = new NameScope();
        Due.lay(x, nodes);
        return x;
    }

    private static NameScope notBound() {
        NameScope x = laid("4 5:0 0z");
        Due.is("bind()", x.bind(), -2 - 2);
        return x;
    }

    private static void writeOfTheFewestAndTheMost() {
        Due.at("promise 10: \"how many nodes that has\"");
        Due.is("one", Due.bound("5:0").write(), 1);
        NameScope x = full();
        Due.is("2999", x.write(), 2999);
        Due.is("the last one", x.written(2998, 1), 2);
        Due.is("none behind it", x.written(2999, 1), NONE);
    }

    private static void writeInPlace() {
        Due.at("promise 10: \"The term is written\", where another one was");
        NameScope x = full();
        x.write();
        Due.lay(x, "4 5:8 5:9");
        x.bind();
        Due.is("the other one until then", x.written(2998, 1), 2);
        Due.is("a smaller one", x.write(), 3);
        Due.is("written", Due.paper(x), "4 5:8 5:9");
        Due.is("nothing more", x.written(2998, 1), NONE);
        Due.is("twice", x.write(), 3);
        Due.is("written twice", Due.paper(x), "4 5:8 5:9");
        Due.is("the term stays", Due.term(x), "4 5:8 5:9");
    }

    // Writes what is left when the nodes are contracted one after another.
    private static void written(String nodes, String due, int... contracted) {
        NameScope x = Due.bound(nodes);
        for (int k : contracted) {
            Due.is("contract(" + k + ") of " + nodes, x.contract(k) > 0, true);
        }
        Due.is("write() of " + nodes, x.write(), due.split(" ").length);
        Due.is("written of " + nodes, Due.paper(x), due);
        x.keep();
        x.again();
        Due.is("bind() of " + due, x.bind(), due.split(" ").length);
        Due.is("same() of " + due, x.same(), true);
    }

    private static void arrowsThatAreUsedNeverOrOnce() {
        Due.at("\"a binder 2 whose variable is not in its last part is an arrow\"");
        written("2a 5:0 5:1", "6 5:0 5:1");
        written("2a 5:0 0a", "2a 5:0 0a");
        written("1a 5:0 2a 0a 5:1", "1a 5:0 6 0a 5:1");
        written("2a 5:0 2a 0a 0a", "2a 5:0 2a 0a 0a");
        written("2a 5:0 1a 5:0 0a", "6 5:0 1a 5:0 0a");
        written("6 5:0 6 5:1 5:2", "6 5:0 6 5:1 5:2");
        // Others stay what they are.
        written("1a 5:0 5:1", "1a 5:0 5:1");
        written("3a 5:0 5:1", "3a 5:0 5:1");
        // Used once until that use goes away.
        written("2a 5:0 4 1b 5:1 5:2 0a", "6 5:0 5:2", 2);
        written("2a 5:0 3b 0a 5:2", "6 5:0 5:2", 2);
    }

    private static void nameOfAGlobalInTheLastPart() {
        Due.at("\"if a global in its last part has that name\"");
        for (int kind = 1; kind <= 3; kind++) {
            String due = kind + "g1 5:0 4 0g1 0g";
            written("3y 0g " + kind + "g 5:0 4 0g 0y", due, 0);
        }
        written("3y 0g 2g 5:0 4 1h 5:0 0y 0g", "2g1 5:0 4 1h 5:0 0g 0g1", 0);
    }

    private static void nameOfAGlobalElsewhere() {
        Due.at("\"if a global in its last part has that name\", not so");
        written("3y 0g 1g 0y 0g", "1g 0g 0g", 0);
        written("3y 0g 4 1g 5:0 0g 0y", "4 1g 5:0 0g 0g", 0);
        written("3y 0g 4 0y 1g 5:0 0g", "4 0g 1g 5:0 0g", 0);
        written("3y 0h 1g 5:0 4 0g 0y", "1g 5:0 4 0g 0h", 0);
        written("1g 5:0 0g", "1g 5:0 0g");
    }

    private static void nameOfAnOuterVariableInTheLastPart() {
        Due.at("\"or an outer variable that is in its last part is written with it\"");
        for (int kind = 1; kind <= 3; kind++) {
            written("1x 5:0 3y 0x " + kind + "x 5:0 4 0x 0y",
                "1x 5:0 " + kind + "x1 5:0 4 0x1 0x", 2);
            written(kind + "x 5:0 3y 0x 1x 5:0 4 0x 0y", kind + "x 5:0 1x1 5:0 4 0x1 0x", 2);
        }
        // Far outside, and deep inside.
        written("1x 5:0 1a 5:0 3y 0x 1x 5:0 1b 5:0 4 0x 0y",
            "1x 5:0 1a 5:0 1x1 5:0 1b 5:0 4 0x1 0x", 4);
    }

    private static void nameOfAnOuterVariableElsewhere() {
        Due.at("\"or an outer variable that is in its last part is written with it\", not so");
        written("1x 5:0 1x 5:0 0x", "1x 5:0 1x 5:0 0x");
        written("1x 5:0 1x 0x 0x", "1x 5:0 1x 0x 0x");
        written("1x 5:0 4 1x 5:0 0x 0x", "1x 5:0 4 1x 5:0 0x 0x");
        written("1x 5:0 4 0x 1x 5:0 0x", "1x 5:0 4 0x 1x 5:0 0x");
        // No outer one: its binder is within the last part, or beside.
        written("1x 5:0 1x 5:0 4 1x 5:0 0x 0x", "1x 5:0 1x 5:0 4 1x 5:0 0x 0x");
        written("4 1x 5:0 0x 1x 5:0 0x", "4 1x 5:0 0x 1x 5:0 0x");
    }

    // Not the name that the outer one has, but the one that it is written with.
    private static void nameThatAnOuterVariableIsWrittenWith() {
        Due.at("\"is written with it\"");
        written("3y 0g 1g 5:0 4 0y 1g1 5:0 4 0g1 0g", "1g1 5:0 4 0g 1g11 5:0 4 0g11 0g1", 0);
        written("3y 0g 1g 5:0 4 0y 3z 0g 1g 5:0 4 0g 0z", "1g1 5:0 4 0g 1g 5:0 4 0g 0g1", 0, 4);
        written("3y 0g 1g 5:0 4 0y 3z 0g 1g 5:0 4 0y 4 0g 0z",
            "1g1 5:0 4 0g 1g2 5:0 4 0g 4 0g2 0g1", 0, 4);
    }

    private static void leastNumber() {
        Due.at("\"the least of the numbers 1, 2, .. behind it\"");
        written("1x 5:0 3y 0x 1x 5:0 4 0x 0y", "1x 5:0 1x1 5:0 4 0x1 0x", 2);
        // x1 is in the last part, x2 is not, x3 is.
        written("1x1 5:0 1x2 5:0 1x3 5:0 1x 5:0 3y 0x 1x 5:0 4 0x 4 0y 4 0x1 0x3",
            "1x1 5:0 1x2 5:0 1x3 5:0 1x 5:0 1x2 5:0 4 0x2 4 0x 4 0x1 0x3", 8);
        // x2 and x3 are in the last part, x1 is not.
        written("1x1 5:0 1x2 5:0 1x3 5:0 1x 5:0 3y 0x 1x 5:0 4 0x 4 0y 4 0x2 0x3",
            "1x1 5:0 1x2 5:0 1x3 5:0 1x 5:0 1x1 5:0 4 0x1 4 0x 4 0x2 0x3", 8);
        // All three are.
        written("1x1 5:0 1x2 5:0 1x3 5:0 1x 5:0 3y 0x 1x 5:0 4 0x 4 0y 4 0x1 4 0x2 0x3",
            "1x1 5:0 1x2 5:0 1x3 5:0 1x 5:0 1x4 5:0 4 0x4 4 0x 4 0x1 4 0x2 0x3", 8);
        // Of two beside one another, only the first one's last part has x1.
        written("1x1 5:0 1x 5:0 3y 0x 4 1x 5:0 4 0x 4 0y 0x1 1x 5:0 4 0x 0y",
            "1x1 5:0 1x 5:0 4 1x2 5:0 4 0x2 4 0x 0x1 1x1 5:0 4 0x1 0x", 4);
        // Of two beside one another, only the first one must keep clear of another one.
        written("1x 5:0 3y 0x 4 1x 5:0 4 0x 0y 1x 5:0 0x",
            "1x 5:0 4 1x1 5:0 4 0x1 0x 1x 5:0 0x", 2);
        // One of them is a global.
        NameScope x = new NameScope();
        x.global(Due.name("x2"));
        Due.lay(x, "1x1 5:0 1x 5:0 3y 0x 1x 5:0 4 0x 4 0y 4 0x1 0x2");
        x.bind();
        x.contract(4);
        x.write();
        Due.is("with a global x2", Due.paper(x),
            "1x1 5:0 1x 5:0 1x3 5:0 4 0x3 4 0x 4 0x1 0x2");
    }

    // Around where a number gets one digit more.
    private static void numbersOfMoreDigits() {
        Due.at("\"the numbers 1, 2, .. behind it\", of more digits");
        for (int least : new int[] {1, 2, 8, 9, 10, 11, 19, 20, 98, 99, 100, 101, 109, 110, 111}) {
            NameScope x = new NameScope();
            x.global('g');
            StringBuilder uses = new StringBuilder();
            for (int i = 1; i < least; i++) {
                x.global(Due.name("g" + i));
                uses.append("4 0g").append(i).append(' ');
            }
            x.global(Due.name("g" + (least + 1)));
            Due.lay(x, "3y 0g 1g 5:0 4 0g" + (least + 1) + " " + uses + "4 0g 0y");
            x.bind();
            x.contract(0);
            x.write();
            Due.is("the least number", Due.text(x.written(0, 1)), "g" + least);
        }
    }

    private static void numbersWithZerosInFront() {
        Due.at("\"(without zeros in front)\"");
        // x0 and x01 are no x with a number, and take none.
        written("1x0 5:0 1x01 5:0 1x 5:0 3y 0x 1x 5:0 4 0x 4 0y 4 0x0 0x01",
            "1x0 5:0 1x01 5:0 1x 5:0 1x1 5:0 4 0x1 4 0x 4 0x0 0x01", 6);
        // x10 takes ten and not one.
        written("1x10 5:0 1x 5:0 3y 0x 1x 5:0 4 0x 4 0y 0x10",
            "1x10 5:0 1x 5:0 1x1 5:0 4 0x1 4 0x 0x10", 4);
    }

    private static void binderThatIsNotUsed() {
        Due.at("\"Other binders have the name that they have, or ..\", not used");
        written("3y 0g 1g 5:0 0y", "1g1 5:0 0g", 0);
        written("3y 0g 3g 5:0 0y", "3g1 5:0 0g", 0);
        written("3y 0g 2g 5:0 0y", "6 5:0 0g", 0);
        written("1x 5:0 3y 0x 1x 5:0 0y", "1x 5:0 1x1 5:0 0x", 2);
    }

    private static void longestNames() {
        Due.at("\"its bytes, one to eight\"");
        written("1abcd 5:0 3y 0abcd 1abcd 5:0 4 0abcd 0y",
            "1abcd 5:0 1abcd1 5:0 4 0abcd1 0abcd", 2);
        written("1a999 5:0 3y 0a999 1a999 5:0 4 0a999 0y",
            "1a999 5:0 1a9991 5:0 4 0a9991 0a999", 2);
        // Two digits here; DeepTest goes on to three, and more are out of reach of 3000 nodes.
        NameScope x = Due.bound(nested(12));
        for (int i = 1; i < 12; i++) {
            Due.is("contract()", x.contract(2 * i) > 0, true);
        }
        x.write();
        for (int i = 0; i < 12; i++) {
            Due.is("fun " + i, Due.text(x.written(2 * i, 1)), i == 0 ? "abcd" : "abcd" + i);
        }
        x.keep();
        x.again();
        x.bind();
        Due.is("same()", x.same(), true);
    }

    // Funs of one name in one another, each but the last one named by a let, too; the innermost
    // last part uses all of them.
    private static String nested(int funs) {
        StringBuilder nodes = new StringBuilder("1abcd 5:0 ");
        StringBuilder uses = new StringBuilder();
        for (int i = 1; i < funs; i++) {
            nodes.append("3y").append(i).append(" 0abcd 1abcd 5:0 ");
            uses.append("4 0y").append(i).append(' ');
        }
        return nodes.append(uses).append("0abcd").toString();
    }

    private static void writtenOfNothing() {
        Due.at("promise 11: \"NONE when there is no such node\", nothing written");
        NameScope x = Due.bound("1a 5:0 0a");
        for (int what = 0; what <= 1; what++) {
            Due.is("written(0, " + what + ") of no term", new NameScope().written(0, what), NONE);
            Due.is("written(0, " + what + ") of a term", x.written(0, what), NONE);
        }
    }

    private static void writtenOfNoNode() {
        Due.at("promise 11: \"NONE when there is no such node\"");
        NameScope great = full();
        great.write();
        NameScope small = Look.busy();
        for (int what = 0; what <= 1; what++) {
            for (int k : NO_NODES) {
                Due.is("written(" + k + ", " + what + ") of 2999", great.written(k, what), NONE);
                Due.is("written(" + k + ", " + what + ") of 3", small.written(k, what), NONE);
            }
            // The term has more nodes than were written.
            Due.is("written(3, " + what + ") of 3", small.written(3, what), NONE);
        }
        Due.is("the first one", small.written(0, 0), 6);
        Due.is("the last one", small.written(2, 1), 'h');
    }

    private static void writtenOfNoWhat() {
        Due.at("promise 11: \"or what is none of these\"");
        NameScope x = Look.busy();
        for (int what : NO_WHATS) {
            for (int k = -1; k <= 3; k++) {
                Due.is("written(" + k + ", " + what + ")", x.written(k, what), NONE);
            }
        }
    }

    private static void writtenBesideNothing() {
        Due.at("promise 11: \"(0 for 4 and 6)\"");
        NameScope x = Due.bound("4 6 5:0 5:1 2a 5:2 5:3");
        x.write();
        Due.is("an application", x.written(0, 1), 0);
        Due.is("an arrow", x.written(1, 1), 0);
        Due.is("an arrow that has a name in the term", x.written(4, 1), 0);
        Due.is("it is an arrow", x.written(4, 0), 6);
    }

    private static void againOfNothing() {
        Due.at("promise 12: \"What was written is laid\", nothing written");
        Due.is("again()", new NameScope().again(), 0);
        NameScope x = Due.bound("5:1");
        Due.lay(x, "4 5:0");
        Due.is("again() where some were laid", x.again(), 0);
        Due.is("drop()", x.drop(), 0);
        Due.is("nodes()", x.nodes(), 1);
    }

    private static void againInPlaceOfFewerOrMore() {
        Due.at("promise 12: \"in place of all nodes that were\"");
        for (String before : new String[] {"4", "5:0 5:0 5:0", "4 4 4 4 4 4", "1z 0z 0z"}) {
            NameScope x = Look.busy(before);
            Due.is("again() in place of " + before, x.again(), 3);
            Due.is("again() once more", x.again(), 3);
            Due.is("bind()", x.bind(), 3);
            Due.is("the term", Due.term(x), "2- 7:0 7:1");
            Due.is("what was written stays", Due.paper(x), "6 0g 0h");
            Due.is("again() behind bind()", x.again(), 3);
        }
    }

    private static void againOfTheMost() {
        Due.at("promise 12: \"how many there are\", as many as can be");
        NameScope x = full();
        x.write();
        x.lay(5, 0);
        Due.is("again()", x.again(), 2999);
        x.lay(5, 0);
        Due.is("again() in place of 3000", x.again(), 2999);
        Due.is("lay", x.lay(5, 0), 3000);
        Due.is("drop()", x.drop(), 3000);
        Due.is("again() in place of none", x.again(), 2999);
        Due.is("bind()", x.bind(), 2999);
    }

    private static NameScope withLongNames() {
        NameScope x = Due.bound("1abcd 5:0 3y 0abcd 1abcd 5:0 3z 0abcd 1abcd 5:0 4 0abcd 4 0y 0z");
        x.contract(2);
        x.contract(4);
        x.write();
        Due.is("written", Due.paper(x),
            "1abcd 5:0 1abcd1 5:0 1abcd2 5:0 4 0abcd2 4 0abcd 0abcd1");
        return x;
    }

    private static void againOfLongNames() {
        Due.at("promise 12: \"(Names of more than four bytes are good there.)\"");
        NameScope x = withLongNames();
        x.keep();
        Due.is("again()", x.again(), 11);
        Due.is("bind()", x.bind(), 11);
        Due.is("same()", x.same(), true);
        Due.is("the term", Due.term(x), "1abcd 5:0 1abcd 5:0 1abcd 5:0 4 0:0 4 0:2 0:1");
    }

    private static void longNamesCannotBeGiven() {
        Due.at("promise 12: \"good there\", and nowhere else");
        NameScope x = withLongNames();
        x.again();
        Due.is("lay(0, abcd1)", x.lay(0, Due.name("abcd1")), NONE);
        Due.is("lay(1, abcd1)", x.lay(1, Due.name("abcd1")), NONE);
        Due.is("global(abcd1)", x.global(Due.name("abcd1")), NONE);
        Due.is("drop()", x.drop(), 11);
    }

    private static void keepOfNone() {
        Due.at("promise 13: \"how many nodes it has\", no term");
        Look.unchanged("keep()", NameScope::new, NameScope::keep, 0);
        NameScope x = laid("5:1");
        Due.is("keep() with a node laid", x.keep(), 0);
        x.bind();
        Due.is("same()", x.same(), false);
    }

    private static void keepOfTheFewestAndTheMost() {
        Due.at("promise 13: \"how many nodes it has\"");
        Due.is("one", Due.bound("5:0").keep(), 1);
        NameScope x = full();
        Due.is("2999", x.keep(), 2999);
        Due.is("the term stays", x.nodes(), 2999);
        Due.is("same()", x.same(), true);
    }

    private static void keepInPlace() {
        Due.at("promise 13: \"in place of one that was\"");
        NameScope x = Look.busy();
        Due.is("a greater one", x.keep(), 7);
        Due.is("same()", x.same(), true);
        x.bind();
        Due.is("not the first one any more", x.same(), false);
        Due.is("a smaller one", x.keep(), 3);
        Due.is("same() once more", x.same(), true);
        Due.lay(x, "4 1b 0g 4 0b 0b 0h");
        x.bind();
        Due.is("not the greater one any more", x.same(), false);
    }

    private static void sameOfNoneAndNone() {
        Due.at("promise 14: \"(none and none are)\"");
        Due.is("same()", new NameScope().same(), true);
        NameScope x = laid("5:0");
        x.keep();
        Due.is("same() with a node laid", x.same(), true);
        x.write();
        x.drop();
        Due.is("same() still", x.same(), true);
    }

    private static void sameOfNoneAndOne() {
        Due.at("promise 14: a term and none");
        Due.is("one node", Due.bound("5:0").same(), false);
        Due.is("an arrow", Due.bound("6 5:0 5:0").same(), false);
        NameScope x = new NameScope();
        x.keep();
        Due.lay(x, "5:0");
        x.bind();
        Due.is("none kept by a call", x.same(), false);
    }

    private static boolean same(String first, String second) {
        NameScope x = Due.bound(first);
        x.keep();
        Due.lay(x, second);
        x.bind();
        return x.same();
    }

    private static void sameButForNames() {
        Due.at("promise 14: \"the same but for names\"");
        for (int kind = 1; kind <= 3; kind++) {
            Due.is("kind " + kind, same(kind + "a 5:0 0a", kind + "bcd1 5:0 0bcd1"), true);
            Due.is("not used", same(kind + "a 5:0 0g", kind + "b 5:0 0g"), true);
        }
        Due.is("a name and none", same("2a 5:0 5:1", "6 5:0 5:1"), true);
        Due.is("none and a name", same("6 5:0 5:1", "2a 5:0 5:1"), true);
    }

    private static void sameOfTheMost() {
        Due.at("promise 14: terms of as many nodes as can be");
        NameScope x = full();
        x.keep();
        x.write();
        x.again();
        x.bind();
        Due.is("same()", x.same(), true);
        NameScope y = new NameScope();
        makeDoubled(y, 7);
        y.keep();
        makeDoubled(y, 7);
        Due.is("same() of 2049 nodes", y.same(), true);
        makeDoubled(y, 8);
        Due.is("same() with another last node", y.same(), false);
    }

    private static void makeDoubled(NameScope x, int sort) {
        Due.lay(x, Big.doubled("4 0j 5:" + sort));
        x.bind();
        for (int i = 0; i < 10; i++) {
            x.contract(0);
        }
        Due.is("nodes()", x.nodes(), 2049);
    }

    private static void notTheSame() {
        Due.at("promise 14: not the same");
        Due.is("sorts", same("5:0", "5:1"), false);
        Due.is("globals", same("0g", "0h"), false);
        Due.is("the last node", same("4 5:0 4 5:0 5:1", "4 5:0 4 5:0 5:2"), false);
        Due.is("the first node", same("4 5:0 5:0", "6 5:0 5:0"), false);
        Due.is("kinds of binders", same("1a 5:0 0a", "2a 5:0 0a"), false);
        Due.is("variables", same("1a 5:0 1b 5:0 0a", "1a 5:0 1b 5:0 0b"), false);
        Due.is("a variable and a global", same("1a 5:0 0a", "1a 5:0 0g"), false);
        Due.is("one less", same("4 5:0 5:0", "5:0"), false);
        Due.is("one more", same("5:0", "4 5:0 5:0"), false);
        Due.is("parts", same("4 4 5:0 5:0 5:0", "4 5:0 4 5:0 5:0"), false);
    }
}
