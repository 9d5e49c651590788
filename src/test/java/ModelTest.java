import java.util.ArrayList;
import java.util.List;
import java.util.Random;

/** Runs of calls drawn from fixed seeds, each answer compared with the model's. */
public final class ModelTest {
    private static final int RUNS = 4000;
    private static final String[] NAMES =
        {"x", "x", "x", "x1", "x2", "y", "x11", "abcd", "abc", "abc1", "g", "g1", "x0", "x01"};
    private static final String[] GLOBALS = {"g", "x", "x1", "x3", "g1", "abcd", "h", "y"};
    private static final long[] BAD = {0, -1, 1, 255, 'A', '1', Long.MIN_VALUE, Long.MAX_VALUE,
        418262508645L, 12641, 24922, 101, 0x6100000000L, 0x610061};

    private final Random random;
    private final Both both = new Both();

    private ModelTest(long seed) {
        random = new Random(seed);
    }

    public static void main(String[] args) {
        for (int seed = 0; seed < RUNS && Due.wrong() < 20; seed++) {
            Due.at("seed " + seed);
            new ModelTest(seed).run();
        }
        Due.end();
    }

    private void run() {
        int globals = random.nextInt(GLOBALS.length + 1);
        for (int g = 0; g < globals; g++) {
            both.global(Due.name(GLOBALS[g]));
        }
        newTerm(5 + random.nextInt(70));
        while (both.hasCalls(130)) {
            step();
        }
        while (both.hasCalls(1)) {
            look();
        }
    }

    private void newTerm(int size) {
        layTerm(size, new ArrayList<>());
        if (random.nextInt(20) == 0) {
            oddLay();
        }
        both.bind();
        both.nodes();
    }

    private void step() {
        switch (random.nextInt(12)) {
            case 0:
                newTerm(1 + random.nextInt(60));
                break;
            case 1:
                both.drop();
                break;
            case 2:
            case 3:
                both.write();
                for (int i = 0; i < 30; i++) {
                    both.written(random.nextInt(both.model.paper.size() + 1), 1);
                }
                break;
            case 4:
                both.keep();
                both.write();
                both.again();
                both.bind();
                both.same();
                break;
            case 5:
                oddLay();
                break;
            case 6:
                both.same();
                both.keep();
                break;
            case 7:
                for (int i = 0; i < 10; i++) {
                    look();
                }
                break;
            default:
                contractOne();
                break;
        }
    }

    private void contractOne() {
        int count = both.model.nodes();
        List<Integer> good = new ArrayList<>();
        for (int k = 0; k < count; k++) {
            if (both.model.canContract(k)) {
                good.add(k);
            }
        }
        int k = good.isEmpty() || random.nextInt(8) == 0
            ? random.nextInt(count + 3) - 1 : good.get(random.nextInt(good.size()));
        both.contract(k);
        both.nodes();
        for (int i = 0; i < 6; i++) {
            look();
        }
    }

    private void look() {
        int k = random.nextInt(both.model.nodes() + 2) - (random.nextInt(9) == 0 ? 1 : 0);
        switch (random.nextInt(4)) {
            case 0:
                both.uses(k);
                break;
            case 1:
                both.written(random.nextInt(both.model.paper.size() + 2) - 1, random.nextInt(4) - 1);
                break;
            default:
                both.node(k, random.nextInt(12) == 0 ? random.nextInt(7) - 3 : random.nextInt(3));
                break;
        }
    }

    private void oddLay() {
        long bad = BAD[random.nextInt(BAD.length)];
        both.lay(random.nextInt(9) - 1, bad);
        both.global(bad);
        if (random.nextInt(3) == 0) {
            both.bind();
        }
        both.drop();
    }

    // Mostly closed, with few names, many lets and applications of funs.
    private void layTerm(int size, List<String> scope) {
        if (size < 3) {
            layLeaf(scope);
            return;
        }
        int first = 1 + random.nextInt(size - 2);
        switch (random.nextInt(8)) {
            case 0:
                both.lay(6, 0);
                layParts(first, size - 1 - first, scope, null);
                break;
            case 1:
            case 2:
                both.lay(4, 0);
                layParts(first, size - 1 - first, scope, null);
                break;
            case 3:
            case 4:
                layRedex(size, scope);
                break;
            default:
                layBinder(1 + random.nextInt(3), size, scope);
                break;
        }
    }

    private void layRedex(int size, List<String> scope) {
        int value = 1 + random.nextInt(Math.max(1, size / 3));
        both.lay(4, 0);
        layBinder(1, size - 1 - value, scope);
        layTerm(value, scope);
    }

    private void layBinder(int kind, int size, List<String> scope) {
        String name = NAMES[random.nextInt(NAMES.length)];
        int first = 1 + random.nextInt(Math.max(1, size / 3));
        both.lay(kind, Due.name(name));
        layParts(first, size - 1 - first, scope, name);
    }

    private void layParts(int first, int last, List<String> scope, String name) {
        layTerm(first, scope);
        List<String> inside = new ArrayList<>(scope);
        if (name != null) {
            inside.add(name);
        }
        layTerm(last, inside);
    }

    private void layLeaf(List<String> scope) {
        int globals = both.model.globals.size();
        int choice = random.nextInt(10);
        if (choice == 0 || scope.isEmpty() && globals == 0) {
            both.lay(5, random.nextInt(101));
        } else if (globals > 0 && (choice < 3 || scope.isEmpty())) {
            both.lay(0, Due.name(both.model.globals.get(random.nextInt(globals))));
        } else if (random.nextInt(200) == 0) {
            both.lay(0, Due.name("lost"));
        } else {
            both.lay(0, Due.name(scope.get(random.nextInt(scope.size()))));
        }
    }
}
