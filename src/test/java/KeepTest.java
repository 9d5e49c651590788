/** Promises 13 and 14: keep, same. */
public final class KeepTest {
    public static void main(String[] args) {
        keeping();
        comparing();
        Due.end();
    }

    private static void keeping() {
        Due.at("promise 13");
        NameScope x = new NameScope();
        x.lay(5, 3);
        Due.is("keep() of no term", x.keep(), 0);
        x.bind();
        Due.is("same() as none", x.same(), false);
        Due.is("keep()", x.keep(), 1);
        Due.is("same()", x.same(), true);
        Due.is("the term is still there", Due.term(x), "5:3");
        Due.lay(x, "3a 5:1 4 0a 0a");
        x.bind();
        Due.is("same() as the first", x.same(), false);
        Due.is("keep() the second", x.keep(), 5);
        Due.is("same() as the second", x.same(), true);
        x.contract(0);
        Due.is("same() contracted", x.same(), false);
        Due.lay(x, "3a 5:1 4 0a 0a");
        x.bind();
        Due.is("the kept one was not contracted", x.same(), true);
        Due.lay(x, "5:3");
        x.bind();
        Due.is("the first one is not kept any more", x.same(), false);
    }

    private static void same(String first, String second, boolean due) {
        NameScope x = Due.bound(first);
        x.keep();
        Due.lay(x, second);
        x.bind();
        Due.is("same() of " + first + " and " + second, x.same(), due);
        x = Due.bound(second);
        x.keep();
        Due.lay(x, first);
        x.bind();
        Due.is("same() of " + second + " and " + first, x.same(), due);
    }

    private static void comparing() {
        Due.at("promise 14");
        Due.is("none and none", new NameScope().same(), true);
        Due.is("a term and none", Due.bound("5:0").same(), false);
        same("1a 5:0 0a", "1b 5:0 0b", true);
        same("2a 5:0 0a", "2b 5:0 0b", true);
        same("3a 5:0 0a", "3b 5:0 0b", true);
        same("2a 5:0 5:1", "6 5:0 5:1", true);
        same("1a 5:0 2b 0a 0a", "1c 5:0 6 0c 0c", true);
        same("1a 5:0 1b 5:0 0a", "1b 5:0 1a 5:0 0b", true);
        same("1a 5:0 1b 5:0 0a", "1a 5:0 1b 5:0 0b", false);
        same("1a 5:0 5:0", "2a 5:0 5:0", false);
        same("1a 5:0 5:0", "3a 5:0 5:0", false);
        same("4 5:0 5:0", "6 5:0 5:0", false);
        same("5:0", "5:1", false);
        same("5:0", "0g", false);
        same("0g", "0h", false);
        same("1g 5:0 0g", "1a 5:0 0g", false);
        same("4 4 5:0 5:0 5:0", "4 5:0 4 5:0 5:0", false);
        same("5:0", "4 5:0 5:0", false);
        same("4 5:0 5:1", "4 5:0 5:2", false);
    }
}
