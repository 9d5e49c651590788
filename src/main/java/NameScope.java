import java.util.Arrays;

/**
 * Binds terms with names to what the names mean, contracts bound terms, and writes them with
 * names again, chosen so that each one means what it should.
 */
public final class NameScope {
    public static final int NONE = -1;
    public static final int FULL = -2;

    private static final int NAME = 0;
    private static final int VARIABLE = 0;
    private static final int FUN = 1;
    private static final int ALL = 2;
    private static final int LET = 3;
    private static final int APPLICATION = 4;
    private static final int SORT = 5;
    private static final int ARROW = 6;
    private static final int GLOBAL = 7;

    private static final int MOST_NODES = 3000;
    private static final int MOST_GLOBALS = 200;
    private static final int MOST_SORT = 100;
    private static final int FIRST_ROOM = 16;

    private final Globals globals;
    private final Row kept;
    private final Row paper;
    private final Row laid;
    private final Scopes scopes;
    private final Pen pen;
    private Row term;
    // A new term is built here, so that a call that fails on the way has changed nothing.
    private Row spare;

    public NameScope() {
        globals = new Globals();
        kept = new Row();
        paper = new Row();
        laid = new Row();
        scopes = new Scopes();
        pen = new Pen();
        term = new Row();
        spare = new Row();
    }

    public int global(long name) {
        return Names.canBeGiven(name) ? globals.add(name) : NONE;
    }

    public int lay(int kind, long beside) {
        if (!canBeBeside(kind, beside) || laid.count() >= MOST_NODES) {
            return NONE;
        }
        laid.add(kind, beside);
        return laid.count();
    }

    public int drop() {
        int before = laid.count();
        laid.clear();
        return before;
    }

    public int bind() {
        if (!laid.measure()) {
            return NONE;
        }
        scopes.read(laid);
        spare.clear();
        int count = laid.count();
        for (int k = 0; k < count; k++) {
            scopes.enter(k);
            if (!bindNode(k)) {
                return -2 - k;
            }
        }
        takeSpare();
        laid.clear();
        return term.count();
    }

    public int nodes() {
        return term.count();
    }

    public long node(int k, int what) {
        if (!term.has(k)) {
            return NONE;
        }
        switch (what) {
            case 0:
                return term.kind(k);
            case 1:
                return term.beside(k);
            case 2:
                return term.size(k);
            default:
                return NONE;
        }
    }

    public int uses(int k) {
        if (!term.has(k) || !isBinder(term.kind(k))) {
            return NONE;
        }
        scopes.read(term);
        return countUses(k);
    }

    public int contract(int k) {
        int binder = contractible(k);
        if (binder == NONE) {
            return NONE;
        }
        int value = binder == k ? k + 1 : term.second(k);
        scopes.read(term);
        int rest = term.count() - term.size(k);
        int last = term.end(binder) - term.second(binder);
        if (rest + last + countUses(binder) * (term.size(value) - 1) > MOST_NODES) {
            return FULL;
        }
        spare.clear();
        copy(0, k);
        copyLastPart(binder, value);
        copy(term.end(k), term.count());
        takeSpare();
        return term.count();
    }

    public int write() {
        if (term.count() == 0) {
            return NONE;
        }
        pen.put(term, globals, paper);
        return paper.count();
    }

    public long written(int k, int what) {
        if (!paper.has(k)) {
            return NONE;
        }
        switch (what) {
            case 0:
                return paper.kind(k);
            case 1:
                return paper.beside(k);
            default:
                return NONE;
        }
    }

    public int again() {
        laid.become(paper);
        return laid.count();
    }

    public int keep() {
        kept.become(term);
        return kept.count();
    }

    public boolean same() {
        int count = term.count();
        if (count != kept.count()) {
            return false;
        }
        for (int k = 0; k < count; k++) {
            int kind = term.kind(k);
            if (kind != kept.kind(k)) {
                return false;
            }
            if (!isBinder(kind) && term.beside(k) != kept.beside(k)) {
                return false;
            }
        }
        return true;
    }

    private static boolean canBeBeside(int kind, long beside) {
        switch (kind) {
            case NAME:
            case FUN:
            case ALL:
            case LET:
                return Names.canBeGiven(beside);
            case SORT:
                return beside >= 0 && beside <= MOST_SORT;
            case APPLICATION:
            case ARROW:
                return beside == 0;
            default:
                return false;
        }
    }

    // An arrow is a binder too: it becomes one, and counts in the indexes of what lies behind it.
    private static boolean isBinder(int kind) {
        return kind == FUN || kind == ALL || kind == LET || kind == ARROW;
    }

    private static boolean hasParts(int kind) {
        return isBinder(kind) || kind == APPLICATION;
    }

    // Doubled, so that all the rows that an object ever makes stay within twice the last ones.
    private static int longer(int length, int need) {
        return Math.max(need, 2 * length);
    }

    private void takeSpare() {
        Row old = term;
        term = spare;
        spare = old;
        term.measure();
    }

    private boolean bindNode(int k) {
        int kind = laid.kind(k);
        long beside = laid.beside(k);
        switch (kind) {
            case NAME:
                return bindName(k, beside);
            case FUN:
            case ALL:
            case LET:
                spare.add(kind, Names.firstFour(beside));
                return true;
            case ARROW:
                spare.add(ALL, 0);
                return true;
            default:
                spare.add(kind, beside);
                return true;
        }
    }

    private boolean bindName(int k, long name) {
        int index = scopes.indexOf(name, laid, k);
        if (index != NONE) {
            spare.add(VARIABLE, index);
            return true;
        }
        int number = globals.find(name);
        if (number == NONE) {
            return false;
        }
        spare.add(GLOBAL, number);
        return true;
    }

    // The binder that goes away when node k is contracted, or NONE when it can't be.
    private int contractible(int k) {
        if (!term.has(k)) {
            return NONE;
        }
        if (term.kind(k) == LET) {
            return k;
        }
        return term.kind(k) == APPLICATION && term.kind(k + 1) == FUN ? k + 1 : NONE;
    }

    private int countUses(int binder) {
        int outside = scopes.depth(binder) + 1;
        int end = term.end(binder);
        int found = 0;
        for (int k = term.second(binder); k < end; k++) {
            if (term.kind(k) == VARIABLE && term.beside(k) == scopes.depth(k) - outside) {
                found++;
            }
        }
        return found;
    }

    private void copy(int from, int end) {
        for (int k = from; k < end; k++) {
            spare.add(term.kind(k), term.beside(k));
        }
    }

    // With the value for the binder's variable, and one binder less around all others.
    private void copyLastPart(int binder, int value) {
        int outside = scopes.depth(binder) + 1;
        int end = term.end(binder);
        for (int k = term.second(binder); k < end; k++) {
            int kind = term.kind(k);
            long beside = term.beside(k);
            int within = scopes.depth(k) - outside;
            if (kind != VARIABLE || beside < within) {
                spare.add(kind, beside);
            } else if (beside == within) {
                copyDeeper(value, within);
            } else {
                spare.add(VARIABLE, beside - 1);
            }
        }
    }

    // What is bound outside the value lies behind as many binders more as now stand around it.
    private void copyDeeper(int value, int more) {
        int outside = scopes.depth(value);
        int end = term.end(value);
        for (int k = value; k < end; k++) {
            long beside = term.beside(k);
            boolean free = term.kind(k) == VARIABLE && beside >= scopes.depth(k) - outside;
            spare.add(term.kind(k), free ? beside + more : beside);
        }
    }

    /** What names are made of. */
    private static final class Names {
        static final long X = 'x';
        private static final int MOST_GIVEN = 4;
        private static final int MOST_BYTES = 8;
        private static final int HIGHEST_TEN = 1000;

        static boolean canBeGiven(long name) {
            if (name <= 0 || name >>> (8 * MOST_GIVEN) != 0) {
                return false;
            }
            long rest = name;
            for (int i = 0; i < MOST_GIVEN && rest != 0; i++) {
                long last = rest & 255;
                boolean isFirst = rest == last;
                boolean isLetter = last >= 'a' && last <= 'z';
                if (!isLetter && (isFirst || !isDigit(last))) {
                    return false;
                }
                rest >>>= 8;
            }
            return true;
        }

        static long firstFour(long name) {
            long first = name;
            for (int i = MOST_GIVEN; i < MOST_BYTES && first >>> (8 * MOST_GIVEN) != 0; i++) {
                first >>>= 8;
            }
            return first;
        }

        // A number has at most four digits: no binder has more than 3200 names to keep clear of.
        static long numbered(long name, int number) {
            long longer = name;
            for (int ten = HIGHEST_TEN; ten > 0; ten /= 10) {
                if (number >= ten) {
                    longer = (longer << 8) | ('0' + number / ten % 10);
                }
            }
            return longer;
        }

        // The number that stands behind the base in the name; 0 when the name is none of these.
        static int numberBehind(long base, long name) {
            long head = name;
            int number = 0;
            int ten = 1;
            for (int i = 1; i < MOST_BYTES; i++) {
                long digit = head & 255;
                if (!isDigit(digit)) {
                    return 0;
                }
                number += ten * (int) (digit - '0');
                ten *= 10;
                head >>>= 8;
                if (head == base) {
                    return digit == '0' ? 0 : number;
                }
            }
            return 0;
        }

        private static boolean isDigit(long letter) {
            return letter >= '0' && letter <= '9';
        }
    }

    /** The globals' names, by their numbers. */
    private static final class Globals {
        private final long[] names = new long[MOST_GLOBALS];
        private int count = 0;

        int count() {
            return count;
        }

        int add(long name) {
            if (count >= MOST_GLOBALS || find(name) != NONE) {
                return NONE;
            }
            names[count] = name;
            count++;
            return count - 1;
        }

        int find(long name) {
            for (int g = 0; g < count; g++) {
                if (names[g] == name) {
                    return g;
                }
            }
            return NONE;
        }

        long name(long number) {
            return number >= 0 && number < count ? names[(int) number] : 0;
        }
    }

    /** Nodes in a row, each before its parts. */
    private static final class Row {
        private int[] kinds = new int[FIRST_ROOM];
        private long[] besides = new long[FIRST_ROOM];
        private int[] sizes = new int[FIRST_ROOM];
        private int count = 0;

        int count() {
            return count;
        }

        boolean has(int k) {
            return k >= 0 && k < count;
        }

        int kind(int k) {
            return has(k) ? kinds[k] : NONE;
        }

        long beside(int k) {
            return has(k) ? besides[k] : NONE;
        }

        // With its parts; a row has sizes from when it is measured until it changes.
        int size(int k) {
            return has(k) ? sizes[k] : 0;
        }

        int end(int k) {
            return k + size(k);
        }

        // Where the second of two parts begins.
        int second(int k) {
            return end(k + 1);
        }

        void clear() {
            count = 0;
        }

        void add(int kind, long beside) {
            if (count >= MOST_NODES) {
                return;
            }
            makeRoom(count + 1);
            kinds[count] = kind;
            besides[count] = beside;
            count++;
        }

        void setBeside(int k, long beside) {
            if (has(k)) {
                besides[k] = beside;
            }
        }

        void become(Row other) {
            makeRoom(other.count);
            System.arraycopy(other.kinds, 0, kinds, 0, other.count);
            System.arraycopy(other.besides, 0, besides, 0, other.count);
            count = other.count;
        }

        // Finds all sizes, from the last node to the first one: whether the row is just one term.
        boolean measure() {
            for (int k = count - 1; k >= 0; k--) {
                sizes[k] = 1;
                if (hasParts(kinds[k])) {
                    int second = second(k);
                    if (!has(k + 1) || !has(second)) {
                        return false;
                    }
                    sizes[k] = end(second) - k;
                }
            }
            return count > 0 && sizes[0] == count;
        }

        private void makeRoom(int need) {
            if (need > kinds.length) {
                int length = longer(kinds.length, need);
                kinds = Arrays.copyOf(kinds, length);
                besides = Arrays.copyOf(besides, length);
                sizes = Arrays.copyOf(sizes, length);
            }
        }
    }

    /** In which binders' last parts each node of a measured row lies. */
    private static final class Scopes {
        private int count = 0;
        // Of each node the innermost one of these binders, or NONE, and how many there are.
        private int[] innermost = new int[FIRST_ROOM];
        private int[] depths = new int[FIRST_ROOM];
        // All of them for the node that was entered last, from the outermost one.
        private int[] open = new int[FIRST_ROOM];

        void read(Row row) {
            makeRoom(row.count());
            count = row.count();
            setInnermost(0, NONE);
            for (int k = 0; k < count; k++) {
                int binder = innermost[k];
                depths[k] = binder == NONE ? 0 : depth(binder) + 1;
                int kind = row.kind(k);
                if (hasParts(kind)) {
                    setInnermost(k + 1, binder);
                    setInnermost(row.second(k), isBinder(kind) ? k : binder);
                }
            }
        }

        int depth(int k) {
            return k >= 0 && k < count ? depths[k] : 0;
        }

        int innermost(int k) {
            return k >= 0 && k < count ? innermost[k] : NONE;
        }

        // Nodes are entered one after another from the first one on: then the outer binders of
        // this one's innermost binder are open still.
        void enter(int k) {
            int place = depth(k) - 1;
            if (place >= 0 && place < open.length) {
                open[place] = innermost(k);
            }
        }

        int open(int place) {
            return place >= 0 && place < open.length ? open[place] : NONE;
        }

        // The binder of the variable with this index at node k, which was entered last.
        int binderOf(int k, long index) {
            long place = depth(k) - 1 - index;
            return place >= 0 && place < open.length ? open[(int) place] : NONE;
        }

        // The index that the name has at node k, which was entered last; NONE if none binds it.
        int indexOf(long name, Row row, int k) {
            int depth = depth(k);
            for (int index = 0; index < depth; index++) {
                if (row.beside(open(depth - 1 - index)) == name) {
                    return index;
                }
            }
            return NONE;
        }

        private void setInnermost(int k, int binder) {
            if (k >= 0 && k < count) {
                innermost[k] = binder;
            }
        }

        private void makeRoom(int need) {
            if (need > depths.length) {
                int length = longer(depths.length, need);
                innermost = new int[length];
                depths = new int[length];
                open = new int[length];
            }
        }
    }

    /**
     * Writes terms. It goes over the nodes once, and chooses a binder's name where the binder's
     * last part begins. There an outer variable, or a global, is in the last part just when the
     * next node that uses it lies before the end: so no last part is searched.
     */
    private static final class Pen {
        // Behind every node.
        private static final int NEVER = MOST_NODES;

        private final Scopes scopes = new Scopes();
        // A place for each global, then one for each node. Of a global or a binder: the next node
        // that uses it. Of a node that uses one: the node that does so next.
        private int[] next = new int[MOST_GLOBALS + FIRST_ROOM];
        private int[] latest = new int[MOST_GLOBALS + FIRST_ROOM];
        // The names that the binder at hand must keep clear of, and the numbers behind its own.
        private long[] near = new long[MOST_GLOBALS + FIRST_ROOM];
        private boolean[] taken = new boolean[MOST_GLOBALS + FIRST_ROOM];
        private int nearCount = 0;

        void put(Row term, Globals globals, Row paper) {
            makeRoom(MOST_GLOBALS + term.count());
            scopes.read(term);
            linkUses(term);
            paper.clear();
            int count = term.count();
            for (int k = 0; k < count; k++) {
                scopes.enter(k);
                int binder = scopes.innermost(k);
                if (binder != NONE && term.second(binder) == k && paper.kind(binder) != ARROW) {
                    paper.setBeside(binder, chooseName(binder, term, globals, paper));
                }
                putNode(k, term, globals, paper);
            }
        }

        private void linkUses(Row term) {
            int places = MOST_GLOBALS + term.count();
            for (int place = 0; place < places && place < next.length; place++) {
                next[place] = NEVER;
                latest[place] = place;
            }
            int count = term.count();
            for (int k = 0; k < count; k++) {
                scopes.enter(k);
                int used = usedBy(k, term);
                if (used != NONE) {
                    setNext(latest[used], k);
                    latest[used] = MOST_GLOBALS + k;
                }
            }
        }

        // The place of the global or the binder that node k, which was entered last, uses.
        private int usedBy(int k, Row term) {
            long used = NONE;
            if (term.kind(k) == GLOBAL) {
                used = term.beside(k);
            } else if (term.kind(k) == VARIABLE) {
                used = MOST_GLOBALS + scopes.binderOf(k, term.beside(k));
            }
            return used >= 0 && used < latest.length ? (int) used : NONE;
        }

        private int nextOf(int place) {
            return place >= 0 && place < next.length ? next[place] : NEVER;
        }

        private void setNext(int place, int k) {
            if (place >= 0 && place < next.length) {
                next[place] = k;
            }
        }

        private void putNode(int k, Row term, Globals globals, Row paper) {
            int kind = term.kind(k);
            long beside = term.beside(k);
            switch (kind) {
                case VARIABLE:
                    paper.add(NAME, paper.beside(scopes.binderOf(k, beside)));
                    passUse(k, term);
                    break;
                case GLOBAL:
                    paper.add(NAME, globals.name(beside));
                    passUse(k, term);
                    break;
                case ALL:
                    boolean isUsed = nextOf(MOST_GLOBALS + k) != NEVER;
                    paper.add(isUsed ? ALL : ARROW, 0);
                    break;
                default:
                    paper.add(kind, beside);
                    break;
            }
        }

        private void passUse(int k, Row term) {
            setNext(usedBy(k, term), nextOf(MOST_GLOBALS + k));
        }

        private long chooseName(int binder, Row term, Globals globals, Row paper) {
            long own = term.beside(binder) == 0 ? Names.X : term.beside(binder);
            gatherNear(binder, term.end(binder), globals, paper);
            for (int i = 0; i < nearCount && i < near.length; i++) {
                if (near[i] == own) {
                    return Names.numbered(own, leastNumber(own));
                }
            }
            return own;
        }

        private void gatherNear(int binder, int end, Globals globals, Row paper) {
            nearCount = 0;
            int numbers = globals.count();
            for (int g = 0; g < numbers; g++) {
                if (nextOf(g) < end) {
                    addNear(globals.name(g));
                }
            }
            int depth = scopes.depth(binder);
            for (int place = 0; place < depth; place++) {
                int outer = scopes.open(place);
                if (nextOf(MOST_GLOBALS + outer) < end) {
                    addNear(paper.beside(outer));
                }
            }
        }

        private void addNear(long name) {
            if (nearCount < near.length) {
                near[nearCount] = name;
                nearCount++;
            }
        }

        // One of the names near is the own one itself, so not all numbers up to their count are
        // taken, and higher ones need no mark.
        private int leastNumber(long own) {
            for (int i = 0; i < nearCount && i < taken.length; i++) {
                taken[i] = false;
            }
            for (int i = 0; i < nearCount && i < near.length; i++) {
                int number = Names.numberBehind(own, near[i]);
                if (number > 0 && number < nearCount && number < taken.length) {
                    taken[number] = true;
                }
            }
            for (int number = 1; number < nearCount && number < taken.length; number++) {
                if (!taken[number]) {
                    return number;
                }
            }
            return Math.max(1, nearCount);
        }

        private void makeRoom(int need) {
            if (need > next.length) {
                int length = longer(next.length, need);
                next = new int[length];
                latest = new int[length];
                near = new long[length];
                taken = new boolean[length];
            }
        }
    }
}
