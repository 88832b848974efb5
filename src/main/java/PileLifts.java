/**
 * Piles of pieces: what may lie on what, wanted pieces by time, the fewest re-lifts by deepening
 * with a bound by what blocks, rows of moves that are replayed, tidy moves, wagons loaded within
 * axles.
 */
public final class PileLifts {
    private static final int MOST_PILES = 4;
    private static final int MOST_LEVELS = 5;
    private static final int MOST_PIECES = 10;
    private static final int MOST_KILOS = 1000;
    private static final int MOST_LENGTH = 100;
    private static final int MOST_TIME = 99;
    private static final int MOST_RELIFTS = 12;
    private static final int MOST_NODES = 100000;
    private static final int MOST_TIDY_MOVES = 20;
    private static final int MOST_WAGONS = 4;
    private static final int MOST_AXLE = 5000;
    private static final int PILES_AT_FIRST = 2;
    private static final int LEVELS_AT_FIRST = 4;
    /** No piece, no pile, no level, no time or no wagon. */
    private static final int NONE = -1;

    private final Yard yard;
    private final Search search;
    private final Wagons wagons;

    public PileLifts() {
        yard = new Yard();
        search = new Search();
        wagons = new Wagons();
    }

    public void piles(int piles, int levels) throws IllegalArgumentException {
        if (!isWithin(piles, 1, MOST_PILES) || !isWithin(levels, 1, MOST_LEVELS)) {
            throw new IllegalArgumentException("piles are 1 to 4, levels 1 to 5");
        }
        yard.clear(piles, levels);
        wagons.clear();
        search.forget();
    }

    public int put(int pile, int kilos, int length)
            throws IndexOutOfBoundsException, IllegalArgumentException,
            UnsupportedOperationException {
        if (!yard.hasPile(pile)) {
            throw new IndexOutOfBoundsException("no such pile");
        }
        if (!isWithin(kilos, 1, MOST_KILOS) || !isWithin(length, 1, MOST_LENGTH)) {
            throw new IllegalArgumentException("kilos are 1 to 1,000, a length 1 to 100");
        }
        if (yard.pieceCount >= MOST_PIECES || !yard.takes(pile, length)) {
            throw new UnsupportedOperationException("no room, or it may not lie there");
        }
        search.forget();
        return yard.add(pile, kilos, length);
    }

    public void want(int piece, int time)
            throws IndexOutOfBoundsException, IllegalStateException, IllegalArgumentException {
        checkPiece(piece);
        if (yard.isGone(piece)) {
            throw new IllegalStateException("the piece is gone");
        }
        if (!isWithin(time, NONE, MOST_TIME)) {
            throw new IllegalArgumentException("a time is 0 to 99, or -1");
        }
        search.forget();
        yard.times[piece] = time;
    }

    public boolean may(int below, int above) throws IndexOutOfBoundsException {
        checkPiece(below);
        checkPiece(above);
        return yard.lengths[below] >= yard.lengths[above];
    }

    public int bound() {
        return yard.countBlocking();
    }

    public int run(int nodes) throws IllegalArgumentException {
        if (!isWithin(nodes, 0, MOST_NODES)) {
            throw new IllegalArgumentException("nodes are 0 to 100,000");
        }
        return search.findBest(yard, nodes);
    }

    public boolean proved() throws IllegalStateException {
        if (!search.isDone) {
            throw new IllegalStateException("no search since something was told");
        }
        return search.isProved;
    }

    public int moves() throws IllegalStateException {
        checkPlan();
        return search.moveCount;
    }

    public int move(int k, int what)
            throws IndexOutOfBoundsException, IllegalStateException, IllegalArgumentException {
        if (!isWithin(what, 0, 1)) {
            throw new IndexOutOfBoundsException("what is 0 or 1");
        }
        checkPlan();
        if (!isWithin(k, 0, search.moveCount - 1)) {
            throw new IllegalArgumentException("the plan has no such move");
        }
        return what == 0 ? search.movedPiece[k] : search.movedTo[k];
    }

    public int replay(int n) throws IllegalStateException, IllegalArgumentException {
        checkPlan();
        if (!isWithin(n, 0, search.moveCount)) {
            throw new IllegalArgumentException("the plan has not so many moves");
        }
        search.doMoves(yard, n);
        search.forget();
        return yard.countGone();
    }

    public int at(int piece, int what) throws IndexOutOfBoundsException {
        checkPiece(piece);
        switch (what) {
            case 0:
                return yard.pileOf[piece];
            case 1:
                return yard.levelOf[piece];
            case 2:
                return yard.isBlocking(piece) ? 1 : 0;
            case 3:
                return yard.times[piece];
            case 4:
                return wagons.wagonOf[piece];
            default:
                throw new IndexOutOfBoundsException("what is 0 to 4");
        }
    }

    public int tidy(int n) throws IllegalArgumentException {
        if (!isWithin(n, 0, MOST_TIDY_MOVES)) {
            throw new IllegalArgumentException("tidy moves are 0 to 20");
        }
        int done = 0;
        while (done < n && yard.tidyOnce()) {
            done++;
        }
        // A plan outlives a call that moved nothing.
        if (done > 0) {
            search.forget();
        }
        return done;
    }

    public int wagon(int axle) throws IllegalArgumentException, UnsupportedOperationException {
        if (!isWithin(axle, 1, MOST_AXLE)) {
            throw new IllegalArgumentException("an axle load is 1 to 5,000");
        }
        if (wagons.count >= MOST_WAGONS) {
            throw new UnsupportedOperationException("there are 4 wagons");
        }
        return wagons.add(axle);
    }

    public int load(int piece)
            throws IndexOutOfBoundsException, IllegalStateException,
            UnsupportedOperationException {
        checkPiece(piece);
        if (!yard.isGone(piece) || wagons.wagonOf[piece] != NONE) {
            throw new IllegalStateException("the piece is not gone, or is in a wagon");
        }
        int chosen = wagons.firstWithRoom(yard.kilos[piece]);
        if (chosen == NONE) {
            throw new UnsupportedOperationException("no wagon has room");
        }
        wagons.fill(chosen, piece, yard.kilos[piece]);
        return chosen;
    }

    private void checkPiece(int piece) {
        if (!yard.hasPiece(piece)) {
            throw new IndexOutOfBoundsException("no such piece");
        }
    }

    private void checkPlan() {
        if (!search.hasPlan) {
            throw new IllegalStateException("there is no plan");
        }
    }

    private static boolean isWithin(int value, int least, int most) {
        return value >= least && value <= most;
    }

    /** The piles, and the pieces that lie in them or are gone. */
    private static final class Yard {
        /** Later than the turn of every wanted piece. */
        private static final int NEVER = (MOST_TIME + 1) * MOST_PIECES;

        private int pileCount;
        private int levelCount;
        private int pieceCount;
        private final int[] heights = new int[MOST_PILES];
        /** The piece at a pile's level, at pile * MOST_LEVELS + level. */
        private final int[] lying = new int[MOST_PILES * MOST_LEVELS];
        private final int[] kilos = new int[MOST_PIECES];
        private final int[] lengths = new int[MOST_PIECES];
        private final int[] times = new int[MOST_PIECES];
        private final int[] pileOf = new int[MOST_PIECES];
        private final int[] levelOf = new int[MOST_PIECES];

        private Yard() {
            clear(PILES_AT_FIRST, LEVELS_AT_FIRST);
        }

        private void clear(int newPiles, int newLevels) {
            pileCount = newPiles;
            levelCount = newLevels;
            pieceCount = 0;
            for (int pile = 0; pile < MOST_PILES; pile++) {
                heights[pile] = 0;
            }
        }

        private boolean hasPile(int pile) {
            return isWithin(pile, 0, pileCount - 1);
        }

        private boolean hasPiece(int piece) {
            return isWithin(piece, 0, pieceCount - 1);
        }

        private boolean isGone(int piece) {
            return pileOf[piece] == NONE;
        }

        private int pieceAt(int pile, int level) {
            return lying[pile * MOST_LEVELS + level];
        }

        private int topOf(int pile) {
            return heights[pile] == 0 ? NONE : pieceAt(pile, heights[pile] - 1);
        }

        /** Whether a pile has room for a piece of this length, and it may lie there. */
        private boolean takes(int pile, int length) {
            if (heights[pile] >= levelCount) {
                return false;
            }
            int top = topOf(pile);
            return top == NONE || lengths[top] >= length;
        }

        private int add(int pile, int newKilos, int newLength) {
            int piece = pieceCount;
            pieceCount++;
            kilos[piece] = newKilos;
            lengths[piece] = newLength;
            times[piece] = NONE;
            layOn(piece, pile);
            return piece;
        }

        private void layOn(int piece, int pile) {
            int level = heights[pile];
            if (level < MOST_LEVELS) {
                lying[pile * MOST_LEVELS + level] = piece;
                heights[pile] = level + 1;
                pileOf[piece] = pile;
                levelOf[piece] = level;
            }
        }

        /** Takes a top piece off its pile; until it is laid down again it is gone. */
        private void takeOff(int piece) {
            int pile = pileOf[piece];
            if (pile != NONE) {
                heights[pile]--;
                pileOf[piece] = NONE;
                levelOf[piece] = NONE;
            }
        }

        private void relift(int piece, int to) {
            takeOff(piece);
            layOn(piece, to);
        }

        /** Pieces leave by rising turns: by time, then by number. */
        private int turnOf(int piece) {
            return times[piece] == NONE ? NEVER : times[piece] * MOST_PIECES + piece;
        }

        /** Whether one of a pile's lowest so many pieces leaves ahead of this one. */
        private boolean wouldBlock(int piece, int pile, int beneath) {
            int turn = turnOf(piece);
            for (int level = 0; level < beneath; level++) {
                if (turnOf(pieceAt(pile, level)) < turn) {
                    return true;
                }
            }
            return false;
        }

        private boolean wouldBlockOn(int piece, int pile) {
            return wouldBlock(piece, pile, heights[pile]);
        }

        private boolean isBlocking(int piece) {
            return !isGone(piece) && wouldBlock(piece, pileOf[piece], levelOf[piece]);
        }

        private int countBlocking() {
            int count = 0;
            for (int piece = 0; piece < pieceCount; piece++) {
                if (isBlocking(piece)) {
                    count++;
                }
            }
            return count;
        }

        private int countGone() {
            int count = 0;
            for (int piece = 0; piece < pieceCount; piece++) {
                if (isGone(piece)) {
                    count++;
                }
            }
            return count;
        }

        private int nextWanted() {
            int next = NONE;
            int least = NEVER;
            for (int piece = 0; piece < pieceCount; piece++) {
                if (!isGone(piece) && turnOf(piece) < least) {
                    next = piece;
                    least = turnOf(piece);
                }
            }
            return next;
        }

        private boolean isTop(int piece) {
            return !isGone(piece) && topOf(pileOf[piece]) == piece;
        }

        private boolean tidyOnce() {
            for (int from = 0; from < pileCount; from++) {
                int piece = topOf(from);
                if (piece != NONE && isBlocking(piece)) {
                    int to = tidyPlaceFor(piece);
                    if (to != NONE) {
                        relift(piece, to);
                        return true;
                    }
                }
            }
            return false;
        }

        private int tidyPlaceFor(int piece) {
            for (int to = 0; to < pileCount; to++) {
                if (to != pileOf[piece] && takes(to, lengths[piece]) && !wouldBlockOn(piece, to)) {
                    return to;
                }
            }
            return NONE;
        }
    }

    /** The latest search, and the plan that it found. */
    private static final class Search {
        private static final int MOST_MOVES = MOST_RELIFTS + MOST_PIECES;

        private boolean isDone;
        private boolean isProved;
        private boolean hasPlan;
        private boolean isCutShort;
        private int nodesLeft;
        private int limit;
        private int moveCount;
        private final int[] movedPiece = new int[MOST_MOVES];
        private final int[] movedFrom = new int[MOST_MOVES];
        private final int[] movedTo = new int[MOST_MOVES];

        private void forget() {
            isDone = false;
            isProved = false;
            hasPlan = false;
            moveCount = 0;
        }

        /** The re-lifts of the best plan, or NONE. The yard is in the end as it was. */
        private int findBest(Yard yard, int nodes) {
            forget();
            nodesLeft = nodes;
            isCutShort = false;
            int blocking = yard.countBlocking();
            for (int round = blocking; round <= MOST_RELIFTS && !hasPlan && !isCutShort; round++) {
                limit = round;
                hasPlan = goOn(yard, 0, blocking);
                int found = moveCount;
                takeBack(yard, 0);
                moveCount = hasPlan ? found : 0;
            }
            isDone = true;
            isProved = !isCutShort;
            return hasPlan ? countRelifts() : NONE;
        }

        /** Whether a plan goes on from here; its moves are then done, and stand in the rows. */
        private boolean goOn(Yard yard, int relifts, int blocking) {
            letLeave(yard);
            if (yard.nextWanted() == NONE) {
                return true;
            }
            if (relifts >= MOST_RELIFTS) {
                return false;
            }
            for (int from = 0; from < yard.pileCount; from++) {
                if (tryFrom(yard, from, relifts, blocking)) {
                    return true;
                }
            }
            return false;
        }

        private boolean tryFrom(Yard yard, int from, int relifts, int blocking) {
            int piece = yard.topOf(from);
            if (piece == NONE) {
                return false;
            }
            int others = blocking - (yard.isBlocking(piece) ? 1 : 0);
            for (int to = 0; to < yard.pileCount && !isCutShort; to++) {
                if (to == from || !yard.takes(to, yard.lengths[piece])) {
                    continue;
                }
                if (nodesLeft == 0) {
                    isCutShort = true;
                    return false;
                }
                nodesLeft--;
                int then = others + (yard.wouldBlockOn(piece, to) ? 1 : 0);
                // The next wanted piece never blocks, so what leaves behind this re-lift leaves
                // the bound as it is: what is above the limit is known before anything moves.
                if (relifts + 1 + then <= limit && tryOne(yard, piece, to, relifts + 1, then)) {
                    return true;
                }
            }
            return false;
        }

        private boolean tryOne(Yard yard, int piece, int to, int relifts, int blocking) {
            int mark = moveCount;
            note(piece, yard.pileOf[piece], to);
            yard.relift(piece, to);
            if (goOn(yard, relifts, blocking)) {
                return true;
            }
            takeBack(yard, mark);
            return false;
        }

        private void letLeave(Yard yard) {
            for (int left = 0; left < MOST_PIECES; left++) {
                int next = yard.nextWanted();
                if (next == NONE || !yard.isTop(next)) {
                    return;
                }
                note(next, yard.pileOf[next], NONE);
                yard.takeOff(next);
            }
        }

        private void note(int piece, int from, int to) {
            if (moveCount < MOST_MOVES) {
                movedPiece[moveCount] = piece;
                movedFrom[moveCount] = from;
                movedTo[moveCount] = to;
                moveCount++;
            }
        }

        private void takeBack(Yard yard, int mark) {
            while (moveCount > mark) {
                moveCount--;
                if (movedTo[moveCount] != NONE) {
                    yard.takeOff(movedPiece[moveCount]);
                }
                yard.layOn(movedPiece[moveCount], movedFrom[moveCount]);
            }
        }

        private void doMoves(Yard yard, int count) {
            for (int k = 0; k < count; k++) {
                if (movedTo[k] == NONE) {
                    yard.takeOff(movedPiece[k]);
                } else {
                    yard.relift(movedPiece[k], movedTo[k]);
                }
            }
        }

        private int countRelifts() {
            int count = 0;
            for (int k = 0; k < moveCount; k++) {
                if (movedTo[k] != NONE) {
                    count++;
                }
            }
            return count;
        }
    }

    /** The wagons, and which piece is in which. */
    private static final class Wagons {
        private int count;
        private final int[] axles = new int[MOST_WAGONS];
        private final int[] loads = new int[MOST_WAGONS];
        private final int[] wagonOf = new int[MOST_PIECES];

        private Wagons() {
            clear();
        }

        private void clear() {
            count = 0;
            for (int piece = 0; piece < MOST_PIECES; piece++) {
                wagonOf[piece] = NONE;
            }
        }

        private int add(int axle) {
            int number = count;
            count++;
            axles[number] = axle;
            loads[number] = 0;
            return number;
        }

        private int firstWithRoom(int kilos) {
            for (int number = 0; number < count; number++) {
                if (loads[number] + kilos <= axles[number]) {
                    return number;
                }
            }
            return NONE;
        }

        private void fill(int number, int piece, int kilos) {
            loads[number] += kilos;
            wagonOf[piece] = number;
        }
    }
}
