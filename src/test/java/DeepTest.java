/**
 * Great and deep terms, made by doubling: binders of one name stand in one another, and all their
 * variables are used in the innermost last part.
 */
public final class DeepTest {
    private static final int DOUBLINGS = 9;

    public static void main(String[] args) {
        Due.at("deep, funs");
        Both both = deep(1, "x", false);
        check(both, "x");
        Due.at("deep, funs with a long name, and globals");
        both = deep(1, "abcd", true);
        check(both, "abcd");
        Due.at("deep, alls");
        both = deep(2, "x", true);
        check(both, "x");
        Due.end();
    }

    // g = fun k . fun y . BINDER x . k (y x), and from each g the next: fun k . g (g k). Then
    // g_n applied to fun z . z is fun y . BINDER x . .. BINDER x . ((y x) .. x).
    private static Both deep(int kind, String name, boolean withGlobals) {
        Both both = new Both();
        if (withGlobals) {
            for (int i = 1; i <= 9; i++) {
                both.global(Due.name("x" + 2 * i));
            }
        }
        both.layAll("3a 1k 5:0 1y 5:0 " + kind + name + " 5:0 4 0k 4 0y 0" + name);
        char before = 'a';
        for (int i = 0; i < DOUBLINGS; i++) {
            char next = (char) (before + 1);
            both.layAll("3" + next + " 1k 5:0 4 0" + before + " 4 0" + before + " 0k");
            before = next;
        }
        both.layAll(withGlobals ? "4 4 0x4 0x2 4 0" + before + " 1z 5:0 0z"
            : "4 0" + before + " 1z 5:0 0z");
        both.bind();
        contractAll(both);
        return both;
    }

    // In the first part of an outermost let before the let itself, so that little is copied.
    private static void contractAll(Both both) {
        boolean isDone = false;
        while (!isDone) {
            int count = both.model.nodes();
            int k = both.model.node(0, 0) == 3 ? 1 : 0;
            int end = k == 1 ? k + (int) both.model.node(1, 2) : count;
            while (k < end && !both.model.canContract(k)) {
                k++;
            }
            if (k < end) {
                both.contract(k);
            } else if (both.model.canContract(0)) {
                both.contract(0);
            } else {
                isDone = true;
            }
        }
    }

    private static void check(Both both, String name) {
        int count = both.nodes();
        Due.is("nodes is more than 2000", count > 2000, true);
        both.write();
        Due.is("the highest number is more than 500", highest(both, name) > 500, true);
        for (int i = 0; i < 60; i++) {
            int k = i * 7919 % count;
            both.node(k, 1);
            both.node(k, 2);
            both.uses(k);
            both.written(k, 0);
            both.written(k, 1);
        }
        both.keep();
        both.again();
        both.bind();
        both.same();
        both.write();
        both.written(count - 1, 1);
    }

    private static int highest(Both both, String name) {
        int highest = 0;
        for (Model.Node node : both.model.paper) {
            if (node.kind == 0 && node.name.matches(name + "[1-9][0-9]*")) {
                highest = Math.max(highest, Integer.parseInt(node.name.substring(name.length())));
            }
        }
        return highest;
    }
}
