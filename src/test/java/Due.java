/**
 * What the tests share: a count of wrong answers, and terms written as text.
 *
 * <p>In a text each node is its kind and what it has beside: "1x 5:0 0x" is fun x, whose first
 * part is sort 0 and whose last part is the name x; an index, a sort or a global's number stands
 * behind a colon; "2-" is a binder without a name.
 */
final class Due {
    private static int wrong = 0;
    private static String place = "";

    private Due() {
    }

    static void at(String newPlace) {
        place = newPlace;
    }

    static void is(String what, long got, long want) {
        if (got != want) {
            report(what, Long.toString(got), Long.toString(want));
        }
    }

    static void is(String what, String got, String want) {
        if (!got.equals(want)) {
            report(what, got, want);
        }
    }

    static void is(String what, boolean got, boolean want) {
        is(what, got ? 1 : 0, want ? 1 : 0);
    }

    static int wrong() {
        return wrong;
    }

    static void end() {
        if (wrong != 0) {
            System.out.println(wrong + " answers are not as due");
            System.exit(1);
        }
    }

    static long name(String text) {
        long name = 0;
        for (int i = 0; i < text.length(); i++) {
            name = (name << 8) | text.charAt(i);
        }
        return name;
    }

    static String text(long name) {
        StringBuilder text = new StringBuilder();
        for (long rest = name; rest != 0; rest >>>= 8) {
            text.append((char) (rest & 255));
        }
        return text.reverse().toString();
    }

    /** Lays all nodes of the text behind those that were laid before. */
    static void lay(NameScope x, String nodes) {
        for (String node : nodes.trim().split("\\s+")) {
            int kind = node.charAt(0) - '0';
            String rest = node.substring(1);
            long beside = rest.startsWith(":") ? Long.parseLong(rest.substring(1)) : name(rest);
            if (x.lay(kind, beside) == NameScope.NONE) {
                report("lay " + node, "NONE", "a count");
            }
        }
    }

    /** A new object whose term is that of the text; the globals are g, h and k. */
    static NameScope bound(String nodes) {
        NameScope x = new NameScope();
        x.global(name("g"));
        x.global(name("h"));
        x.global(name("k"));
        lay(x, nodes);
        is("bind() of " + nodes, x.bind(), nodes.trim().split("\\s+").length);
        return x;
    }

    static String term(NameScope x) {
        StringBuilder all = new StringBuilder();
        for (int k = 0; k < x.nodes(); k++) {
            all.append(k == 0 ? "" : " ").append(node(x.node(k, 0), x.node(k, 1), true));
        }
        return all.toString();
    }

    static String paper(NameScope x) {
        StringBuilder all = new StringBuilder();
        for (int k = 0; x.written(k, 0) != NameScope.NONE; k++) {
            all.append(k == 0 ? "" : " ").append(node(x.written(k, 0), x.written(k, 1), false));
        }
        return all.toString();
    }

    private static String node(long kind, long beside, boolean isBound) {
        if (kind == 5 || kind == 7 || isBound && kind == 0) {
            return kind + ":" + beside;
        }
        if (kind == 4 || kind == 6) {
            return beside == 0 ? Long.toString(kind) : kind + "?" + beside;
        }
        return kind + (beside == 0 ? "-" : text(beside));
    }

    private static void report(String what, String got, String want) {
        wrong++;
        System.out.println(place + ": " + what + " answered " + got + ", due is " + want);
    }
}
