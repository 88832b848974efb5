/** Holds long rows of made-up calls against the plain model, with the same rows each time. */
public final class ModelTest {
    private static final int OBJECTS = 1500;
    private static final int MOST_CALLS = 512;

    private final Due due = new Due();
    private long seed;

    private int below(int bound) {
        seed = seed * 6364136223846793005L + 1442695040888963407L;
        return (int) ((seed >>> 33) % bound);
    }

    private int from(int least, int most) {
        return least + below(most - least + 1);
    }

    /** Mostly within the range, now and then at or just behind its edges, or far away. */
    private int about(int least, int most) {
        switch (below(24)) {
            case 0:
                return least - 1;
            case 1:
                return most + 1;
            case 2:
                return least;
            case 3:
                return most;
            case 4:
                return below(6) == 0 ? Integer.MIN_VALUE : least;
            case 5:
                return below(6) == 0 ? Integer.MAX_VALUE : most;
            default:
                return from(least, most);
        }
    }

    private void same(String call, Due.Call got, Due.Call want) {
        due.is(call, Due.told(got), Due.told(want));
    }

    private void tell(PileLifts x, Model m, String call) {
        String[] words = call.split(" ");
        int[] a = new int[3];
        for (int i = 1; i < words.length; i++) {
            a[i - 1] = Integer.parseInt(words[i]);
        }
        switch (words[0]) {
            case "piles":
                same(call, () -> { x.piles(a[0], a[1]); return 0; }, () -> { m.piles(a[0], a[1]); return 0; });
                break;
            case "put":
                same(call, () -> x.put(a[0], a[1], a[2]), () -> m.put(a[0], a[1], a[2]));
                break;
            case "want":
                same(call, () -> { x.want(a[0], a[1]); return 0; }, () -> { m.want(a[0], a[1]); return 0; });
                break;
            case "may":
                same(call, () -> x.may(a[0], a[1]) ? 1 : 0, () -> m.may(a[0], a[1]) ? 1 : 0);
                break;
            case "bound":
                same(call, () -> x.bound(), () -> m.bound());
                break;
            case "run":
                same(call, () -> x.run(a[0]), () -> m.run(a[0]));
                break;
            case "proved":
                same(call, () -> x.proved() ? 1 : 0, () -> m.proved() ? 1 : 0);
                break;
            case "moves":
                same(call, () -> x.moves(), () -> m.moves());
                break;
            case "move":
                same(call, () -> x.move(a[0], a[1]), () -> m.move(a[0], a[1]));
                break;
            case "replay":
                same(call, () -> x.replay(a[0]), () -> m.replay(a[0]));
                break;
            case "at":
                same(call, () -> x.at(a[0], a[1]), () -> m.at(a[0], a[1]));
                break;
            case "tidy":
                same(call, () -> x.tidy(a[0]), () -> m.tidy(a[0]));
                break;
            case "wagon":
                same(call, () -> x.wagon(a[0]), () -> m.wagon(a[0]));
                break;
            case "load":
                same(call, () -> x.load(a[0]), () -> m.load(a[0]));
                break;
            default:
                throw new IllegalStateException(call);
        }
    }

    /** Mostly hundreds, so that wagons come to be just full. */
    private int someKilos(int most) {
        return below(4) == 0 ? about(1, most) : 100 * from(1, 8);
    }

    private int someNodes() {
        switch (below(8)) {
            case 0:
                return about(0, 100000) > 100000 ? 100001 : from(-1, 1);
            case 1:
                return from(0, 30);
            case 2:
                return 3000;
            default:
                return from(0, 600);
        }
    }

    /** Few lengths and few times make ties, and piles on which most pieces may lie. */
    private String someCall(int lengths, int times) {
        switch (below(40)) {
            case 0:
                return below(4) != 0 ? "bound" : "piles " + about(1, 4) + " " + about(1, 5);
            case 1: case 2: case 3: case 4: case 5: case 6: case 7: case 8:
                return "put " + about(0, 3) + " " + someKilos(1000) + " "
                        + (below(20) == 0 ? about(1, 100) : from(1, lengths));
            case 9: case 10: case 11: case 12: case 13: case 14:
                return "want " + about(0, 9) + " " + (below(9) == 0 ? about(-1, 99) : from(0, times));
            case 15: case 16:
                return "may " + about(0, 9) + " " + about(0, 9);
            case 17: case 18:
                return "bound";
            case 19: case 20: case 21: case 22:
                return "run " + someNodes();
            case 23: case 24:
                return "proved";
            case 25:
                return "moves";
            case 26: case 27: case 28: case 29:
                return "move " + about(0, 8) + " " + about(0, 1);
            case 30: case 31:
                return "replay " + about(0, below(3) == 0 ? 20 : 3);
            case 32: case 33: case 34: case 35:
                return "at " + about(0, 9) + " " + about(0, 4);
            case 36:
                return "tidy " + (below(2) == 0 ? from(0, 2) : about(0, 20));
            case 37:
                return "wagon " + someKilos(5000);
            default:
                return "load " + about(0, 9);
        }
    }

    private void tellAll(PileLifts x, Model m) {
        for (int piece = 0; piece < 10; piece++) {
            for (int what = 0; what < 5; what++) {
                tell(x, m, "at " + piece + " " + what);
            }
        }
        tell(x, m, "bound");
    }

    private void tellPlan(PileLifts x, Model m) {
        tell(x, m, "proved");
        tell(x, m, "moves");
        for (int k = 0; k < 23; k++) {
            tell(x, m, "move " + k + " 0");
            tell(x, m, "move " + k + " 1");
        }
    }

    private void oneObject() {
        PileLifts x = new PileLifts();
        Model m = new Model();
        StringBuilder row = new StringBuilder();
        int lengths = from(1, 4);
        int times = from(0, 9);
        if (below(8) != 0) {
            tell(x, m, "piles " + from(2, 4) + " " + from(2, 5));
        }
        int calls = from(20, MOST_CALLS / 2);
        for (int i = 0; i < calls && due.isAllRight(); i++) {
            String call = someCall(lengths, times);
            row.append(call).append("; ");
            tell(x, m, call);
            if (call.startsWith("run") && below(4) == 0) {
                tellPlan(x, m);
            }
        }
        tellAll(x, m);
        if (!due.isAllRight()) {
            System.out.println("after: " + row);
        }
    }

    /** Full yards of ten pieces, in which the search has to dig. */
    private void oneDeepSearch() {
        PileLifts x = new PileLifts();
        Model m = new Model();
        tell(x, m, "piles " + from(3, 4) + " " + from(4, 5));
        for (int i = 0; i < 30; i++) {
            tell(x, m, "put " + from(0, 3) + " 1 " + (100 - 3 * i - below(3)));
        }
        for (int piece = 0; piece < 10; piece++) {
            tell(x, m, "want " + piece + " " + from(0, 12));
        }
        tell(x, m, "run " + from(0, 200));
        tellPlan(x, m);
        tell(x, m, "run 20000");
        tellPlan(x, m);
        tellAll(x, m);
        tell(x, m, "replay " + from(0, 16));
        tellAll(x, m);
    }

    /** Few pieces on many piles, moved and wanted anew again and again. */
    private void oneStirring() {
        PileLifts x = new PileLifts();
        Model m = new Model();
        tell(x, m, "piles " + from(3, 4) + " " + from(3, 5));
        for (int i = 0; i < 10; i++) {
            tell(x, m, "put " + from(0, 3) + " 1 " + from(1, 3));
        }
        for (int i = 0; i < 40; i++) {
            tell(x, m, "want " + from(0, 9) + " " + from(-1, 4));
            if (below(3) == 0) {
                tell(x, m, "run " + from(0, 2000));
                tell(x, m, "replay " + from(0, 1));
            } else {
                tell(x, m, "tidy " + from(0, 2));
                tell(x, m, "want " + from(0, 9) + " -1");
            }
            tell(x, m, "bound");
        }
        tellAll(x, m);
    }

    public static void main(String[] args) {
        ModelTest test = new ModelTest();
        for (int object = 0; object < OBJECTS && test.due.isAllRight(); object++) {
            test.seed = 7919L * object + 1;
            test.oneObject();
        }
        for (int object = 0; object < OBJECTS / 10 && test.due.isAllRight(); object++) {
            test.seed = 104729L * object + 5;
            test.oneDeepSearch();
        }
        for (int object = 0; object < OBJECTS && test.due.isAllRight(); object++) {
            test.seed = 1299709L * object + 3;
            test.oneStirring();
        }
        test.due.end();
    }
}
