import java.util.ArrayList;
import java.util.List;

/**
 * The document once more, as literally and plainly as it can be written: states are copied, nothing
 * is counted ahead. It shares no code with the class, so that the two can be held against each other.
 */
final class Model {
    static final class Piece {
        final int number;
        final int kilos;
        final int length;
        int time = -1;
        int wagon = -1;

        Piece(int number, int kilos, int length) {
            this.number = number;
            this.kilos = kilos;
            this.length = length;
        }

        boolean leavesAheadOf(Piece other) {
            if (time < 0) {
                return false;
            }
            if (other.time < 0) {
                return true;
            }
            return time != other.time ? time < other.time : number < other.number;
        }
    }

    private static final class UsedUp extends RuntimeException {
        private static final long serialVersionUID = 1L;
    }

    private int levels = 4;
    private List<Piece> pieces = new ArrayList<>();
    private List<List<Piece>> piles = emptyPiles(2);
    private List<int[]> wagons = new ArrayList<>();
    private boolean searched = false;
    private boolean proved = false;
    private List<int[]> plan = null;
    private int nodesLeft = 0;

    private static List<List<Piece>> emptyPiles(int count) {
        List<List<Piece>> made = new ArrayList<>();
        for (int i = 0; i < count; i++) {
            made.add(new ArrayList<>());
        }
        return made;
    }

    private static List<List<Piece>> copy(List<List<Piece>> state) {
        List<List<Piece>> made = new ArrayList<>();
        for (List<Piece> pile : state) {
            made.add(new ArrayList<>(pile));
        }
        return made;
    }

    private static boolean blocks(List<Piece> pile, int level) {
        for (int l = 0; l < level; l++) {
            if (pile.get(l).leavesAheadOf(pile.get(level))) {
                return true;
            }
        }
        return false;
    }

    private static int boundOf(List<List<Piece>> state) {
        int count = 0;
        for (List<Piece> pile : state) {
            for (int level = 0; level < pile.size(); level++) {
                count += blocks(pile, level) ? 1 : 0;
            }
        }
        return count;
    }

    private static Piece nextOf(List<List<Piece>> state) {
        Piece next = null;
        for (List<Piece> pile : state) {
            for (Piece piece : pile) {
                if (piece.time >= 0 && (next == null || piece.leavesAheadOf(next))) {
                    next = piece;
                }
            }
        }
        return next;
    }

    private static Piece topOf(List<Piece> pile) {
        return pile.isEmpty() ? null : pile.get(pile.size() - 1);
    }

    private boolean takes(List<Piece> pile, int length) {
        return pile.size() < levels && (pile.isEmpty() || topOf(pile).length >= length);
    }

    private void index(boolean there) {
        if (!there) {
            throw new IndexOutOfBoundsException();
        }
    }

    private void turn(boolean now) {
        if (!now) {
            throw new IllegalStateException();
        }
    }

    private void range(int value, int least, int most) {
        if (value < least || value > most) {
            throw new IllegalArgumentException();
        }
    }

    private void meaning(boolean can) {
        if (!can) {
            throw new UnsupportedOperationException();
        }
    }

    private void forget() {
        searched = false;
        plan = null;
    }

    private Piece piece(int number) {
        index(number >= 0 && number < pieces.size());
        return pieces.get(number);
    }

    private List<Piece> pileWith(Piece piece) {
        for (List<Piece> pile : piles) {
            if (pile.contains(piece)) {
                return pile;
            }
        }
        return null;
    }

    void piles(int count, int newLevels) {
        range(count, 1, 4);
        range(newLevels, 1, 5);
        levels = newLevels;
        pieces = new ArrayList<>();
        piles = emptyPiles(count);
        wagons = new ArrayList<>();
        forget();
    }

    int put(int pile, int kilos, int length) {
        index(pile >= 0 && pile < piles.size());
        range(kilos, 1, 1000);
        range(length, 1, 100);
        meaning(pieces.size() < 10 && takes(piles.get(pile), length));
        Piece piece = new Piece(pieces.size(), kilos, length);
        pieces.add(piece);
        piles.get(pile).add(piece);
        forget();
        return piece.number;
    }

    void want(int number, int time) {
        Piece piece = piece(number);
        turn(pileWith(piece) != null);
        range(time, -1, 99);
        piece.time = time;
        forget();
    }

    boolean may(int below, int above) {
        return piece(below).length >= piece(above).length;
    }

    int bound() {
        return boundOf(piles);
    }

    int run(int nodes) {
        range(nodes, 0, 100000);
        searched = true;
        proved = true;
        plan = null;
        nodesLeft = nodes;
        try {
            for (int limit = boundOf(piles); limit <= 12 && plan == null; limit++) {
                plan = searched(copy(piles), new ArrayList<>(), 0, limit);
            }
        } catch (UsedUp e) {
            proved = false;
        }
        if (plan == null) {
            return -1;
        }
        int relifts = 0;
        for (int[] move : plan) {
            relifts += move[1] >= 0 ? 1 : 0;
        }
        return relifts;
    }

    private List<int[]> searched(List<List<Piece>> state, List<int[]> row, int relifts, int limit) {
        Piece next = nextOf(state);
        for (int pile = 0; next != null && pile < state.size(); pile++) {
            if (topOf(state.get(pile)) == next) {
                state.get(pile).remove(next);
                row.add(new int[] {next.number, -1});
                next = nextOf(state);
                pile = -1;
            }
        }
        if (next == null) {
            return row;
        }
        if (relifts + boundOf(state) > limit) {
            return null;
        }
        for (int from = 0; from < state.size(); from++) {
            for (int to = 0; to < state.size(); to++) {
                Piece top = topOf(state.get(from));
                if (from == to || top == null || !takes(state.get(to), top.length)) {
                    continue;
                }
                if (nodesLeft == 0) {
                    throw new UsedUp();
                }
                nodesLeft--;
                List<List<Piece>> then = copy(state);
                then.get(from).remove(top);
                then.get(to).add(top);
                List<int[]> further = new ArrayList<>(row);
                further.add(new int[] {top.number, to});
                List<int[]> found = searched(then, further, relifts + 1, limit);
                if (found != null) {
                    return found;
                }
            }
        }
        return null;
    }

    boolean proved() {
        turn(searched);
        return proved;
    }

    int moves() {
        turn(plan != null);
        return plan.size();
    }

    int move(int k, int what) {
        index(what == 0 || what == 1);
        turn(plan != null);
        range(k, 0, plan.size() - 1);
        return plan.get(k)[what];
    }

    int replay(int n) {
        turn(plan != null);
        range(n, 0, plan.size());
        for (int k = 0; k < n; k++) {
            Piece piece = pieces.get(plan.get(k)[0]);
            pileWith(piece).remove(piece);
            if (plan.get(k)[1] >= 0) {
                piles.get(plan.get(k)[1]).add(piece);
            }
        }
        forget();
        int gone = 0;
        for (Piece piece : pieces) {
            gone += pileWith(piece) == null ? 1 : 0;
        }
        return gone;
    }

    int at(int number, int what) {
        Piece piece = piece(number);
        index(what >= 0 && what <= 4);
        List<Piece> pile = pileWith(piece);
        int level = pile == null ? -1 : pile.indexOf(piece);
        if (what == 0) {
            for (int p = 0; p < piles.size(); p++) {
                if (piles.get(p) == pile) {
                    return p;
                }
            }
            return -1;
        }
        if (what == 1) {
            return level;
        }
        if (what == 2) {
            return pile != null && blocks(pile, level) ? 1 : 0;
        }
        return what == 3 ? piece.time : piece.wagon;
    }

    int tidy(int n) {
        range(n, 0, 20);
        int done = 0;
        while (done < n && tidied()) {
            done++;
            forget();
        }
        return done;
    }

    private boolean tidied() {
        for (List<Piece> from : piles) {
            if (from.isEmpty() || !blocks(from, from.size() - 1)) {
                continue;
            }
            Piece top = topOf(from);
            for (List<Piece> to : piles) {
                if (to == from || !takes(to, top.length)) {
                    continue;
                }
                to.add(top);
                if (!blocks(to, to.size() - 1)) {
                    from.remove(from.size() - 1);
                    return true;
                }
                to.remove(to.size() - 1);
            }
        }
        return false;
    }

    int wagon(int axle) {
        range(axle, 1, 5000);
        meaning(wagons.size() < 4);
        wagons.add(new int[] {axle});
        return wagons.size() - 1;
    }

    int load(int number) {
        Piece piece = piece(number);
        turn(pileWith(piece) == null && piece.wagon < 0);
        for (int w = 0; w < wagons.size(); w++) {
            if (piece.kilos <= wagons.get(w)[0]) {
                wagons.get(w)[0] -= piece.kilos;
                piece.wagon = w;
                return w;
            }
        }
        throw new UnsupportedOperationException();
    }
}
