/** Makes each call on a NameScope and on the model, and compares what they answer. */
final class Both {
    private static final int MOST_CALLS = 512;

    final Model model = new Model();
    private final NameScope x = new NameScope();
    private int calls = 0;

    /** An object is good for 512 calls. */
    boolean hasCalls(int more) {
        return calls + more <= MOST_CALLS;
    }

    int global(long name) {
        return check("global(" + name + ")", x.global(name), model.global(name));
    }

    int lay(int kind, long beside) {
        return check("lay(" + kind + ", " + beside + ")", x.lay(kind, beside),
            model.lay(kind, beside));
    }

    int drop() {
        return check("drop()", x.drop(), model.drop());
    }

    int bind() {
        return check("bind()", x.bind(), model.bind());
    }

    int nodes() {
        return check("nodes()", x.nodes(), model.nodes());
    }

    void node(int k, int what) {
        check("node(" + k + ", " + what + ")", x.node(k, what), model.node(k, what));
    }

    void uses(int k) {
        check("uses(" + k + ")", x.uses(k), model.uses(k));
    }

    int contract(int k) {
        return check("contract(" + k + ")", x.contract(k), model.contract(k));
    }

    int write() {
        return check("write()", x.write(), model.write());
    }

    void written(int k, int what) {
        check("written(" + k + ", " + what + ")", x.written(k, what), model.written(k, what));
    }

    int again() {
        return check("again()", x.again(), model.again());
    }

    int keep() {
        return check("keep()", x.keep(), model.keep());
    }

    void same() {
        check("same()", x.same() ? 1 : 0, model.same() ? 1 : 0);
    }

    /** The nodes of a text, as Due.lay takes them. */
    void layAll(String nodes) {
        for (String node : nodes.trim().split("\\s+")) {
            String rest = node.substring(1);
            lay(node.charAt(0) - '0',
                rest.startsWith(":") ? Long.parseLong(rest.substring(1)) : Due.name(rest));
        }
    }

    private int check(String call, long got, long want) {
        calls++;
        Due.is("call " + calls + ", " + call, got, want);
        return (int) want;
    }
}
