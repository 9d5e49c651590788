/** Terms that are greater than what can be laid in 512 calls. */
final class Big {
    private static final int BLOCK = 99;

    private Big() {
    }

    /**
     * A let whose first part has 99 nodes, and whose last part uses it so often that the term has
     * just so many nodes (an odd number from 199 on) when node 0 has been contracted.
     */
    static String sum(int nodes) {
        int times = (nodes - 1) / (BLOCK + 1);
        int rest = nodes - times * (BLOCK + 1);
        return "3a " + chain("5:1", (BLOCK + 1) / 2) + " "
            + "4 0a ".repeat(times) + chain("5:2", (rest + 1) / 2);
    }

    static void grow(NameScope x) {
        x.contract(0);
    }

    /**
     * Lets in one another, each of the one before applied to itself: the last part can use j,
     * which has 2047 nodes when the nine lets before its own have been contracted.
     */
    static String doubled(String last) {
        StringBuilder nodes = new StringBuilder("3a 4 5:1 5:2 ");
        for (char each = 'b'; each <= 'j'; each++) {
            char before = (char) (each - 1);
            nodes.append("3" + each + " 4 0" + before + " 0" + before + " ");
        }
        return nodes + last;
    }

    /** So many leaves, and applications between them. */
    static String chain(String leaf, int leaves) {
        return ("4 " + leaf + " ").repeat(leaves - 1) + leaf;
    }
}
