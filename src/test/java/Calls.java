/** Calls told as texts: "put 0 10 5" is put(0, 10, 5). */
final class Calls {
    private Calls() {
    }

    /** What a call answers (a boolean 1 or 0, nothing 0), or the exact class that it throws. */
    static String answer(PileLifts x, String call) {
        String[] words = call.trim().split(" ");
        int[] a = new int[words.length - 1];
        for (int i = 0; i < a.length; i++) {
            a[i] = Integer.parseInt(words[i + 1]);
        }
        return Due.told(() -> tell(x, words[0], a));
    }

    private static int tell(PileLifts x, String name, int[] a) {
        switch (name) {
            case "piles":
                x.piles(a[0], a[1]);
                return 0;
            case "put":
                return x.put(a[0], a[1], a[2]);
            case "want":
                x.want(a[0], a[1]);
                return 0;
            case "may":
                return x.may(a[0], a[1]) ? 1 : 0;
            case "bound":
                return x.bound();
            case "run":
                return x.run(a[0]);
            case "proved":
                return x.proved() ? 1 : 0;
            case "moves":
                return x.moves();
            case "move":
                return x.move(a[0], a[1]);
            case "replay":
                return x.replay(a[0]);
            case "at":
                return x.at(a[0], a[1]);
            case "tidy":
                return x.tidy(a[0]);
            case "wagon":
                return x.wagon(a[0]);
            case "load":
                return x.load(a[0]);
            default:
                throw new AssertionError("no call " + name);
        }
    }
}
