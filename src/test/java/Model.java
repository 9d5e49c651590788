import java.util.ArrayList;
import java.util.HashSet;
import java.util.IdentityHashMap;
import java.util.List;
import java.util.Map;
import java.util.Set;

/**
 * The document once more, in another way: terms are trees, a variable points to its binder, names
 * are texts, and all is found by searching. Slow, and meant to be plainly right.
 */
final class Model {
    static final int NONE = -1;
    static final int FULL = -2;

    /** A node of a bound term, or of one that was laid or written. */
    static final class Node {
        final int kind;
        final String name;
        final int number;
        Node first;
        Node last;
        Node binder;

        Node(int kind, String name, int number) {
            this.kind = kind;
            this.name = name;
            this.number = number;
        }

        boolean isBinder() {
            return kind >= 1 && kind <= 3;
        }
    }

    final List<String> globals = new ArrayList<>();
    List<Node> laid = new ArrayList<>();
    List<Node> paper = new ArrayList<>();
    Node term = null;
    Node kept = null;

    private int place;
    private int lost;

    int global(long name) {
        if (!isGiven(name) || globals.contains(Due.text(name)) || globals.size() == 200) {
            return NONE;
        }
        globals.add(Due.text(name));
        return globals.size() - 1;
    }

    int lay(int kind, long beside) {
        boolean isGood;
        if (kind >= 0 && kind <= 3) {
            isGood = isGiven(beside);
        } else if (kind == 5) {
            isGood = beside >= 0 && beside <= 100;
        } else {
            isGood = (kind == 4 || kind == 6) && beside == 0;
        }
        if (!isGood || laid.size() == 3000) {
            return NONE;
        }
        laid.add(kind <= 3 ? new Node(kind, Due.text(beside), 0)
            : new Node(kind, "", (int) beside));
        return laid.size();
    }

    int drop() {
        int before = laid.size();
        laid = new ArrayList<>();
        return before;
    }

    int bind() {
        int missing = 1;
        for (Node node : laid) {
            if (missing == 0) {
                return NONE;
            }
            missing += node.kind == 0 || node.kind == 5 ? -1 : 1;
        }
        if (missing != 0) {
            return NONE;
        }
        place = 0;
        lost = -1;
        Node bound = bindNext(new ArrayList<>());
        if (lost >= 0) {
            return -2 - lost;
        }
        term = bound;
        laid = new ArrayList<>();
        return nodes();
    }

    private Node bindNext(List<Object[]> around) {
        int k = place++;
        Node from = laid.get(k);
        if (from.kind == 0) {
            return bindName(k, from.name, around);
        }
        if (from.kind == 5) {
            return new Node(5, "", from.number);
        }
        String name = from.name.length() > 4 ? from.name.substring(0, 4) : from.name;
        Node to = new Node(from.kind == 6 ? 2 : from.kind, name, 0);
        to.first = bindNext(around);
        if (from.kind != 4 && from.kind != 6) {
            List<Object[]> inside = new ArrayList<>(around);
            inside.add(new Object[] {from.name, to});
            to.last = bindNext(inside);
        } else {
            to.last = bindNext(around);
        }
        return to;
    }

    private Node bindName(int k, String name, List<Object[]> around) {
        for (int i = around.size() - 1; i >= 0; i--) {
            if (around.get(i)[0].equals(name)) {
                Node variable = new Node(0, "", 0);
                variable.binder = (Node) around.get(i)[1];
                return variable;
            }
        }
        int number = globals.indexOf(name);
        if (number < 0 && lost < 0) {
            lost = k;
        }
        return new Node(7, "", number);
    }

    int nodes() {
        return term == null ? 0 : rowOf(term).size();
    }

    long node(int k, int what) {
        Node node = at(k);
        if (node == null || what < 0 || what > 2) {
            return NONE;
        }
        if (what == 0) {
            return node.kind;
        }
        if (what == 2) {
            return rowOf(node).size();
        }
        if (node.kind == 0) {
            return indexOf(node);
        }
        return node.isBinder() ? Due.name(node.name) : node.number;
    }

    // Counts the binders on the way down from the variable's own one.
    private int indexOf(Node variable) {
        int others = 0;
        Node here = variable.binder.last;
        while (here != variable) {
            boolean isInLast = contains(here.last, variable);
            others += here.isBinder() && isInLast ? 1 : 0;
            here = isInLast ? here.last : here.first;
        }
        return others;
    }

    private static boolean contains(Node top, Node wanted) {
        for (Node node : rowOf(top)) {
            if (node == wanted) {
                return true;
            }
        }
        return false;
    }

    int uses(int k) {
        Node node = at(k);
        if (node == null || !node.isBinder()) {
            return NONE;
        }
        int found = 0;
        for (Node each : rowOf(node.last)) {
            found += each.binder == node ? 1 : 0;
        }
        return found;
    }

    boolean canContract(int k) {
        Node node = at(k);
        return node != null && (node.kind == 3 || node.kind == 4 && node.first.kind == 1);
    }

    int contract(int k) {
        if (!canContract(k)) {
            return NONE;
        }
        Node node = at(k);
        Node binder = node.kind == 3 ? node : node.first;
        Node value = node.kind == 3 ? node.first : node.last;
        int times = 0;
        for (Node each : rowOf(binder.last)) {
            times += each.binder == binder ? 1 : 0;
        }
        long count = (long) nodes() - rowOf(node).size() + rowOf(binder.last).size()
            + (long) times * (rowOf(value).size() - 1);
        if (count > 3000) {
            return FULL;
        }
        Node result = copy(binder.last, binder, value, new IdentityHashMap<>());
        term = replace(term, node, result);
        return nodes();
    }

    private static Node copy(Node from, Node binder, Node value, Map<Node, Node> copies) {
        if (from.binder != null && from.binder == binder) {
            return copy(value, null, null, new IdentityHashMap<>());
        }
        Node to = new Node(from.kind, from.name, from.number);
        copies.put(from, to);
        if (from.binder != null) {
            to.binder = copies.getOrDefault(from.binder, from.binder);
        }
        if (from.first != null) {
            to.first = copy(from.first, binder, value, copies);
            to.last = copy(from.last, binder, value, copies);
        }
        return to;
    }

    private static Node replace(Node here, Node old, Node fresh) {
        if (here == old) {
            return fresh;
        }
        if (here.first != null) {
            here.first = replace(here.first, old, fresh);
            here.last = replace(here.last, old, fresh);
        }
        return here;
    }

    int write() {
        if (term == null) {
            return NONE;
        }
        paper = new ArrayList<>();
        write(term, new IdentityHashMap<>());
        return paper.size();
    }

    private void write(Node node, Map<Node, String> names) {
        if (node.kind == 0) {
            paper.add(new Node(0, names.get(node.binder), 0));
        } else if (node.kind == 7) {
            paper.add(new Node(0, globals.get(node.number), 0));
        } else if (node.kind == 5) {
            paper.add(new Node(5, "", node.number));
        } else {
            writeParts(node, names);
        }
    }

    private void writeParts(Node node, Map<Node, String> names) {
        List<Node> last = rowOf(node.last);
        boolean isUsed = false;
        for (Node each : last) {
            isUsed |= each.binder == node;
        }
        if (node.kind == 4 || node.kind == 2 && !isUsed) {
            paper.add(new Node(node.kind == 4 ? 4 : 6, "", 0));
            write(node.first, names);
            write(node.last, names);
            return;
        }
        Set<String> taken = new HashSet<>();
        for (Node each : last) {
            if (each.kind == 7) {
                taken.add(globals.get(each.number));
            } else if (each.kind == 0 && names.containsKey(each.binder)) {
                taken.add(names.get(each.binder));
            }
        }
        String own = node.name.isEmpty() ? "x" : node.name;
        String chosen = own;
        for (int i = 1; taken.contains(chosen); i++) {
            chosen = own + i;
        }
        paper.add(new Node(node.kind, chosen, 0));
        write(node.first, names);
        names.put(node, chosen);
        write(node.last, names);
        names.remove(node);
    }

    long written(int k, int what) {
        if (k < 0 || k >= paper.size() || what < 0 || what > 1) {
            return NONE;
        }
        Node node = paper.get(k);
        if (what == 0) {
            return node.kind;
        }
        return node.kind <= 3 ? Due.name(node.name) : node.number;
    }

    int again() {
        laid = new ArrayList<>(paper);
        return laid.size();
    }

    int keep() {
        kept = term == null ? null : copy(term, null, null, new IdentityHashMap<>());
        return nodes();
    }

    boolean same() {
        if (term == null || kept == null) {
            return term == kept;
        }
        return same(term, kept, new IdentityHashMap<>());
    }

    private static boolean same(Node one, Node other, Map<Node, Node> partners) {
        if (one.kind != other.kind || one.number != other.number) {
            return false;
        }
        if (one.kind == 0) {
            return partners.get(one.binder) == other.binder;
        }
        if (one.first == null) {
            return true;
        }
        partners.put(one, other);
        return same(one.first, other.first, partners) && same(one.last, other.last, partners);
    }

    private Node at(int k) {
        List<Node> row = term == null ? new ArrayList<>() : rowOf(term);
        return k < 0 || k >= row.size() ? null : row.get(k);
    }

    static List<Node> rowOf(Node top) {
        List<Node> row = new ArrayList<>();
        fill(top, row);
        return row;
    }

    private static void fill(Node node, List<Node> row) {
        row.add(node);
        if (node.first != null) {
            fill(node.first, row);
            fill(node.last, row);
        }
    }

    private static boolean isGiven(long name) {
        return Due.text(name).matches("[a-z][a-z0-9]{0,3}") && Due.name(Due.text(name)) == name;
    }
}
