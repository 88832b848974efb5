/** Each sentence of the document that names a boundary case, quoted, with runs of its own. */
public final class EdgesTest {
    private static final Edges EDGES = new Edges();

    /** Two piles of equal pieces: what is wanted there needs a known number of re-lifts. */
    private static final String TWO_PILES = "piles 2 5; put 0 1 1; " + Edges.times(4, "put 1 1 1")
            + "; put 0 1 1; put 1 1 1; want 2 1; want 0 3; want 1 3";

    /** Piece 1 is too long for pile 1, and piece 2 only comes and goes: there is no plan. */
    private static final String NO_PLAN = "put 0 1 9; put 0 1 7; put 1 1 5; want 0 0";

    private static void run(String sentence, String... lines) {
        EDGES.run(sentence, lines);
    }

    private static String times(int count, String call) {
        return Edges.times(count, call);
    }

    private static void newObject() {
        run("Two piles", "put 0 1 1 = 0; put 1 1 1 = 1; put 2 1 1 = index");
        run("Two piles", "put -1 1 1 = index; put LEAST 1 1 = index; put MOST 1 1 = index");
        run("Empty piles", "at 0 0 = index; bound = 0; put 0 1 100 = 0; put 1 1 100 = 1",
                "at 0 1 = 0; at 1 1 = 0");
        run("Four levels", times(4, "put 0 1 1"), "at 3 1 = 3; put 0 1 1 = meaning");
        run("Four levels", times(4, "put 1 1 1"), "at 3 1 = 3; put 1 1 1 = meaning; put 0 1 1 = 4");
        run("Nothing was searched", "proved = turn; moves = turn; move 0 0 = turn; replay 0 = turn");
        run("Nothing is there", "want 0 0 = index; may 0 0 = index; load 0 = index");
        run("Nothing to do", "tidy 20 = 0; run 0 = 0; proved = 1; moves = 0; replay 0 = 0");
        run("No wagons", "wagon 1 = 0");
    }

    private static void promisePiles() {
        String wrong = "Range: they are not so";
        run(wrong, "piles 0 1 = range; piles -1 1 = range; piles LEAST 1 = range");
        run(wrong, "piles 5 1 = range; piles MOST 1 = range");
        run(wrong, "piles 1 0 = range; piles 1 -1 = range; piles 1 LEAST = range");
        run(wrong, "piles 1 6 = range; piles 1 MOST = range");
        run(wrong, "piles 0 0 = range; piles 5 6 = range; piles LEAST MOST = range");
        run("A refused call forgets nothing", "put 0 1 1; want 0 0; run 0; wagon 9",
                "piles 0 4 = range; piles 2 6 = range; moves = 1; replay 1; load 0 = 0",
                "piles 5 4 = range; piles 2 0 = range; at 0 4 = 0");
        for (int piles = 1; piles <= 4; piles++) {
            for (int levels = 1; levels <= 5; levels++) {
                String last = "put " + (piles - 1) + " 1 1";
                run("PILES (1 .. 4) have LEVELS (1 .. 5)", "piles " + piles + " " + levels,
                        "put " + piles + " 1 1 = index", times(levels, last),
                        "at " + (levels - 1) + " 1 = " + (levels - 1), last + " = meaning",
                        "put " + piles + " 1 1 = index");
            }
        }
        run("All pieces are forgotten", "put 0 1 1; put 1 1 1; want 1 5; piles 2 4; at 0 0 = index",
                "at 1 0 = index; bound = 0; put 1 1 100 = 0; at 0 1 = 0; at 0 3 = -1");
        run("All pieces are forgotten: ten of them", "piles 2 5", times(5, "put 0 1 1"),
                times(5, "put 1 1 1"), "put 0 1 1 = meaning; piles 2 5; put 0 1 1 = 0");
        run("All pieces are forgotten: in piles that are none for a while",
                "piles 4 2; put 3 1 1; put 3 1 1; piles 1 2; put 3 1 1 = index; piles 4 2",
                "put 3 1 100 = 0; at 0 1 = 0");
        run("All pieces are forgotten: what is gone", "put 0 1 1; want 0 0; run 0; replay 1 = 1",
                "piles 2 4; put 0 1 1 = 0; at 0 0 = 0; run 0; replay 0 = 0");
        run("Wagons are forgotten", times(4, "wagon 5"), "wagon 5 = meaning; piles 2 4",
                "wagon 5 = 0; wagon 5 = 1; wagon 5 = 2; wagon 5 = 3; wagon 5 = meaning");
        run("Wagons are forgotten, with what is in them", "put 0 5 1; want 0 0; run 0; replay 1",
                "wagon 5; load 0 = 0; piles 2 4; put 0 5 1 = 0; at 0 4 = -1; want 0 0; run 0",
                "replay 1; load 0 = meaning; wagon 5 = 0; load 0 = 0; at 0 4 = 0");
        run("Wagons are forgotten, with the room in them", "wagon 50; wagon 50; piles 2 4; put 0 5 1",
                "want 0 0; run 0; replay 1; load 0 = meaning; wagon 4; load 0 = meaning; at 0 4 = -1");
        run("The plan is kept until piles are told", "run 0 = 0; moves = 0; piles 2 4",
                "moves = turn; move 0 0 = turn; replay 0 = turn; proved = turn");
    }

    private static void promisePut() {
        run("Index: no such pile", "put 2 1 1 = index; put -1 1 1 = index; put MOST 1 1 = index",
                "put LEAST 1 1 = index");
        run("Index: no such pile, of one", "piles 1 5; put 1 1 1 = index; put -1 1 1 = index");
        run("Index: no such pile, of four", "piles 4 1; put 4 1 1 = index; put 3 1 1 = 0");
        run("KILOS (1 .. 1,000)", "put 0 0 1 = range; put 0 -1 1 = range; put 0 LEAST 1 = range",
                "put 0 1 1 = 0");
        run("KILOS (1 .. 1,000)", "put 0 1001 1 = range; put 0 MOST 1 = range; put 0 1000 1 = 0");
        run("LENGTH (1 .. 100)", "put 0 1 0 = range; put 0 1 -1 = range; put 0 1 LEAST = range",
                "put 0 1 1 = 0");
        run("LENGTH (1 .. 100)", "put 0 1 101 = range; put 0 1 MOST = range; put 0 1 100 = 0");
        run("Meaning: there are 10", "piles 4 5",
                times(5, "put 0 1 1"), times(4, "put 1 1 1"), "put 2 1 1 = 9; put 2 1 1 = meaning",
                "put 3 1 1 = meaning; at 9 0 = 2; at 9 1 = 0");
        run("Meaning: there are 10, gone or not", "piles 4 5", times(5, "put 0 1 1"),
                times(5, "put 1 1 1"), "want 4 0; run 0; replay 1 = 1; put 0 1 1 = meaning",
                "put 3 1 1 = meaning");
        run("Meaning: the pile is full", "piles 2 1; put 0 1 1 = 0; put 0 1 1 = meaning",
                "put 1 1 1 = 1; put 1 1 1 = meaning");
        run("Meaning: the pile is full, until one leaves", "piles 2 2; put 0 1 5; put 0 1 5",
                "put 0 1 5 = meaning; want 1 0; run 0; replay 1; put 0 1 5 = 2; at 2 1 = 1",
                "put 0 1 5 = meaning");
        run("Meaning: it may not lie there", "put 0 1 5 = 0; put 0 1 6 = meaning; put 0 1 5 = 1",
                "put 0 1 4 = 2; put 0 1 5 = meaning; put 1 1 6 = 3");
        run("Meaning: it may not lie there, at the most length", "put 0 1 99; put 0 1 100 = meaning",
                "put 1 1 100 = 1");
        run("And on the ground", "put 0 1 1 = 0; put 1 1 100 = 1; at 1 1 = 0");
        run("And on the ground, when all have left", "put 0 1 1; want 0 0; put 0 1 2 = meaning",
                "run 0; replay 1; put 0 1 100 = 1; at 1 1 = 0");
        run("The top counts, not what lies beneath", "put 0 1 9; put 0 1 3; put 0 1 4 = meaning",
                "want 1 0; run 0; replay 1; put 0 1 4 = 2");
        run("A level (0 the lowest)", "piles 1 5", times(5, "put 0 1 1"), "at 0 1 = 0; at 4 1 = 4");
        run("Index ahead of range", "put 2 0 1 = index; put 2 1 101 = index; put -1 0 0 = index");
        run("Index ahead of meaning", "piles 2 5", times(5, "put 0 1 1"), times(5, "put 1 1 1"),
                "put 2 1 1 = index");
        run("Range ahead of meaning: full", "piles 1 1; put 0 1 1; put 0 0 1 = range",
                "put 0 1 0 = range; put 0 1001 1 = range; put 0 1 101 = range");
        run("Range ahead of meaning: may not lie there", "put 0 1 1; put 0 0 2 = range",
                "put 0 1001 2 = range; put 0 1 101 = range");
        run("Range ahead of meaning: there are 10", "piles 3 5", times(5, "put 0 1 1"),
                times(5, "put 1 1 1"), "put 2 0 1 = range; put 2 1 101 = range");
        run("The plan is kept until a piece comes", "run 0; moves = 0; put 0 1 1; moves = turn",
                "proved = turn; move 0 0 = turn; replay 0 = turn");
        run("The plan is kept when none comes", "put 0 1 1; want 0 3; run 0; put 2 1 1 = index",
                "put 0 0 1 = range; put 0 1 2 = meaning; proved = 1; moves = 1; move 0 0 = 0");
    }

    private static void promiseWant() {
        run("Index: no such piece", "want 0 0 = index; put 0 1 1; want 1 0 = index",
                "want -1 0 = index; want MOST 0 = index; want LEAST 0 = index; want 0 0");
        run("TIME (0 .. 99)", "put 0 1 1; want 0 0; at 0 3 = 0; want 0 99; at 0 3 = 99");
        run("Range: the time", "put 0 1 1; want 0 100 = range; want 0 MOST = range");
        run("Range: the time", "put 0 1 1; want 0 -2 = range; want 0 LEAST = range");
        run("Range: the time, of one that is wanted", "put 0 1 1; want 0 7; want 0 100 = range",
                "want 0 -2 = range; at 0 3 = 7");
        run("-1: not any more", "put 0 1 1; put 0 1 1; want 0 5; bound = 1; want 0 -1; at 0 3 = -1",
                "bound = 0; run 0 = 0; moves = 0");
        run("-1, of one that is not wanted", "put 0 1 1; want 0 -1; at 0 3 = -1; bound = 0");
        run("Turn: it is gone", "put 0 1 1; want 0 5; run 0; replay 1; want 0 6 = turn",
                "want 0 5 = turn; want 0 -1 = turn; at 0 3 = 5");
        run("Turn ahead of range", "put 0 1 1; want 0 5; run 0; replay 1; want 0 100 = turn",
                "want 0 -2 = turn; want 0 LEAST = turn");
        run("Index ahead of range", "put 0 1 1; want 1 100 = index; want -1 -2 = index");
        run("The plan is kept until a piece is wanted", "put 0 1 1; run 0; moves = 0; want 0 0",
                "moves = turn; proved = turn; replay 0 = turn; move 0 0 = turn");
        run("The plan is kept when none is", "put 0 1 1; want 0 5; run 0; want 1 0 = index",
                "want 0 100 = range; moves = 1; proved = 1");
        run("The NEXT one is that of the least time", "put 0 1 1; put 1 1 1; want 0 99; want 1 98",
                "run 0 = 0; move 0 0 = 1; move 1 0 = 0");
        run("Of these the lowest number", "put 0 1 1; put 1 1 1; want 0 99; want 1 99",
                "run 0 = 0; move 0 0 = 0; move 1 0 = 1");
        run("A time weighs more than a number", "piles 2 5", times(5, "put 0 1 1"),
                times(5, "put 1 1 1"), "want 9 0; want 4 1; run 0 = 0; move 0 0 = 9; move 1 0 = 4");
        run("Of those that are not gone", "put 0 1 1; put 1 1 1; want 0 0; want 1 1; run 0",
                "replay 1 = 1; run 0 = 0; moves = 1; move 0 0 = 1");
    }

    private static void promiseMay() {
        run("Index: no such pieces", "may 0 0 = index; put 0 1 1; may 0 1 = index; may 1 0 = index",
                "may -1 0 = index; may 0 -1 = index; may MOST 0 = index; may 0 LEAST = index");
        run("Not shorter than it: as long", "put 0 1 7; put 1 1 7; may 0 1 = 1; may 1 0 = 1");
        run("Not shorter than it: by one", "put 0 1 7; put 1 1 6; may 0 1 = 1; may 1 0 = 0");
        run("Not shorter than it: far apart", "put 0 1 100; put 1 1 1; may 0 1 = 1; may 1 0 = 0");
        run("Kilos are nothing to it", "put 0 1 7; put 1 1000 7; may 0 1 = 1; may 1 0 = 1");
        run("As they are: in a full pile", "piles 2 1; put 0 1 7; put 1 1 7; may 0 1 = 1");
        run("As they are: gone", "put 0 1 7; put 1 1 6; want 0 0; run 0; replay 1; may 0 1 = 1",
                "may 1 0 = 0");
        run("The last piece", "piles 2 5", times(5, "put 0 1 2"), times(5, "put 1 1 1"),
                "may 0 9 = 1; may 9 0 = 0; may 9 10 = index; may 10 9 = index");
    }

    private static void promiseBound() {
        run("Empty", "bound = 0");
        run("One piece", "put 0 1 1; want 0 0; bound = 0; at 0 2 = 0");
        run("None wanted", times(4, "put 0 1 1"), "bound = 0; at 3 2 = 0");
        run("At whatever level", "piles 1 5", times(5, "put 0 1 1"), "want 0 0; bound = 4",
                "at 1 2 = 1; at 4 2 = 1; want 3 1; bound = 4; want 0 -1; bound = 1; at 4 2 = 1",
                "at 3 2 = 0");
        run("Above a piece of its pile", "put 0 1 1; put 1 1 1; want 0 0; bound = 0; at 1 2 = 0");
        run("That will leave ahead of it: by time", "put 0 1 1; put 0 1 1; want 0 5; want 1 6",
                "bound = 1; at 1 2 = 1; want 1 4; bound = 0; at 1 2 = 0");
        run("That will leave ahead of it: by number", "put 0 1 1; put 0 1 1; want 0 5; want 1 5",
                "bound = 1; at 1 2 = 1");
        run("That will leave ahead of it: by number, the lower one above",
                "put 0 1 1; put 0 1 1; put 1 1 1; want 0 0; run 2 = 1; replay 2 = 1",
                "at 1 0 = 1; at 1 1 = 1; want 1 7; want 2 7; bound = 0; at 1 2 = 0; want 2 6",
                "bound = 1; at 1 2 = 1; at 2 2 = 0");
        run("That will leave ahead of it: piece 0 may block too",
                "piles 3 4; put 0 1 5; put 1 1 9; put 1 1 7; put 2 1 5; want 1 0; run 99; replay 1",
                "at 0 0 = 2; at 0 1 = 1; bound = 1; want 3 0; bound = 2; at 0 2 = 1; want 0 0",
                "bound = 1; at 0 2 = 0");
        run("Or that is wanted, when it is not", "put 0 1 1; put 0 1 1; want 0 99; bound = 1",
                "want 1 99; bound = 1; want 1 98; bound = 0; want 1 -1; bound = 1");
        run("A piece counts once", times(4, "put 0 1 1"), "want 0 0; want 1 1; want 2 2; bound = 3");
        run("The most that can block", "piles 2 5", times(5, "put 0 1 1"), times(5, "put 1 1 1"),
                "want 0 0; want 5 0; bound = 8");
        run("What is gone neither blocks nor is blocked", "put 0 1 1; put 0 1 1; want 0 1; want 1 0",
                "run 0 = 0; replay 1 = 1; bound = 0; at 1 2 = 0; put 0 1 1; bound = 1; at 2 2 = 1",
                "at 1 2 = 0");
    }

    private static void promiseRun() {
        run("Range: nodes", "run -1 = range; run LEAST = range; run 0 = 0");
        run("Range: nodes", "run 100001 = range; run MOST = range; run 100000 = 0");
        run("Range: nodes, the plan is kept", "put 0 1 1; want 0 0; run 0; run -1 = range",
                "run 100001 = range; moves = 1; proved = 1");
        run("Nothing is wanted", "put 0 1 1; put 0 1 1; run 0 = 0; proved = 1; moves = 0");
        run("All that can leave does, without a node", times(4, "put 0 1 1"),
                "want 3 0; want 2 1; want 1 2; want 0 3; run 0 = 0; proved = 1; moves = 4");
        run("No re-lift is tried when nodes are used up", "put 0 1 1; put 0 1 1; want 0 0",
                "run 0 = -1; proved = 0; moves = turn; run 1 = 1; proved = 1; moves = 2");
        run("Each that is legal is a NODE, also one that is not gone on with",
                "put 0 1 1; put 1 1 1; put 1 1 1; want 1 0; run 1 = -1; proved = 0; run 2 = 1",
                "proved = 1; move 0 0 = 2; move 0 1 = 0");
        run("Each that is legal is a NODE: one without room is none",
                "piles 2 2; put 0 1 1; put 1 1 1; put 1 1 1; want 1 0; run 0 = -1; run 1 = 1");
        run("Each that is legal is a NODE: one that may not lie there is none",
                "put 0 1 2; put 1 1 9; put 1 1 1; want 1 0; run 0 = -1; run 1 = 1; proved = 1");
        run("Nodes of all rounds together", NO_PLAN, "run 0 = -1; proved = 0; run 11 = -1",
                "proved = 0; run 71 = -1; proved = 0; run 72 = -1; proved = 1; run 100000 = -1",
                "proved = 1");
        run("Nodes of all rounds together: each search has its own", NO_PLAN,
                "run 40 = -1; proved = 0; run 40 = -1; proved = 0; run 72 = -1; proved = 1");
        run("Nodes (.. 100,000) that do not do", "piles 4 5; put 0 1 9; put 0 1 8; put 0 1 7",
                "put 0 1 6; put 0 1 5; put 1 1 2; put 2 1 2; put 3 1 2; put 3 1 1; want 0 0",
                "run 100000 = -1; proved = 0; moves = turn");
        run("(At most 12): 11 are enough", TWO_PILES, "want 3 9; run 100000 = 11; proved = 1");
        run("(At most 12): 12 are enough", TWO_PILES, "want 4 9; run 100000 = 12; proved = 1",
                "moves = 16; move 15 0 = 4; move 15 1 = -1; move 16 0 = range; replay 16 = 4");
        run("When there is none up to 12: 13 would do", TWO_PILES, "want 6 9; run 100000 = -1",
                "proved = 1; moves = turn; move 0 0 = turn; replay 0 = turn");
        run("When there is none: piles that are full", "piles 2 5", times(5, "put 0 1 1"),
                times(5, "put 1 1 1"), "want 0 0; want 5 0; run 100000 = -1; proved = 1; moves = turn");
        run("When there is none: one pile", "piles 1 5; put 0 1 1; put 0 1 1; want 0 0",
                "run 100000 = -1; proved = 1; want 1 0; want 0 1; run 0 = 0; moves = 2");
        run("When there is none: piles of one level", "piles 4 1; put 0 1 1; put 1 1 1; want 1 0",
                "run 0 = 0; moves = 1");
        run("-1, and the plan of before is no more", "put 0 1 1; put 0 1 1; want 0 0; run 1 = 1",
                "moves = 2; run 0 = -1; moves = turn; replay 0 = turn; proved = 0");
        run("To the top of another one that has room", "piles 3 2; put 0 1 1; put 0 1 1; put 1 1 1",
                "put 1 1 1; want 0 0; run 9 = 1; move 0 0 = 1; move 0 1 = 2");
        run("On which it may lie", "piles 3 4; put 0 1 9; put 0 1 5; put 1 1 4; put 2 1 5; want 0 0",
                "run 9 = 1; move 0 0 = 1; move 0 1 = 2");
        run("From piles in order to piles in order", "piles 4 4; put 1 1 1; put 1 1 1; want 0 0",
                "run 1 = 1; move 0 0 = 1; move 0 1 = 0");
        run("From piles in order", "piles 3 4; put 0 1 1; put 0 1 1; put 1 1 1; put 1 1 1; want 0 1",
                "want 2 1; run 99 = 2; moves = 4; move 0 0 = 1; move 0 1 = 2; move 1 0 = 0",
                "move 2 0 = 3; move 2 1 = 0; move 3 0 = 2");
        run("It leaves at once, the next one alone", "put 0 1 1; put 0 1 1; put 1 1 1; want 0 3",
                "want 2 5; run 99 = 2; moves = 4; move 0 0 = 1; move 0 1 = 1; move 1 0 = 0",
                "move 1 1 = -1; move 2 0 = 1; move 2 1 = 0; move 3 0 = 2; move 3 1 = -1");
        run("What lies now is not changed", "put 0 1 1; put 0 1 1; want 0 0; run 9 = 1; at 0 0 = 0",
                "at 1 0 = 0; at 1 1 = 1; bound = 1");
    }

    private static void promiseProved() {
        run("Turn: there was none", "proved = turn; put 0 1 1; proved = turn");
        run("Since something was told: a piece", "run 0; proved = 1; put 0 1 1; proved = turn");
        run("Since something was told: a time", "put 0 1 1; run 0; want 0 0; proved = turn; run 0",
                "proved = 1; want 0 -1; proved = turn");
        run("Since something was told: piles", "run 0; piles 2 4; proved = turn");
        run("Since something was told: moves", "put 0 1 1; want 0 0; run 0; replay 1; proved = turn");
        run("Since something was told: tidy moves", "put 0 1 1; put 0 1 1; want 0 0; run 0",
                "proved = 0; tidy 1 = 1; proved = turn");
        run("The latest search", "put 0 1 1; put 0 1 1; want 0 0; run 1; proved = 1; run 0",
                "proved = 0; run 1; proved = 1");
        run("Not proved, and asked again", "put 0 1 1; put 0 1 1; want 0 0; run 0; proved = 0",
                "bound = 1; at 0 0 = 0; may 0 1 = 1; moves = turn; proved = 0");
    }

    private static void promiseMoves() {
        run("Turn: there is no plan", "moves = turn; run 0; moves = 0; piles 1 1; moves = turn");
        run("Turn: there is no plan, none was found", NO_PLAN, "run 72; moves = turn; run 0",
                "moves = turn");
        run("An empty plan", "put 0 1 1; run 0 = 0; moves = 0; move 0 0 = range; replay 1 = range",
                "replay 0 = 0");
        run("The longest plan", "piles 3 5; put 0 1 2; put 1 1 7; put 2 1 4; put 2 1 4; put 1 1 7",
                "put 1 1 6; put 1 1 6; put 2 1 2; put 1 1 5; put 2 1 2; want 0 0; want 1 9; want 2 0",
                "want 3 7; want 4 6; want 5 3; want 6 4; want 7 1; want 8 3; want 9 6",
                "run 100000 = 12; moves = 22; move 21 1 = -1; move 22 0 = range; replay 23 = range",
                "replay 22 = 10; bound = 0; at 1 0 = -1; put 0 1 1 = meaning");
    }

    private static void promiseMove() {
        String plan = "put 0 1 1; put 0 1 1; want 0 0; run 1 = 1";
        run("What 0 the piece, 1 the pile (-1: it leaves)", plan, "move 0 0 = 1; move 0 1 = 1",
                "move 1 0 = 0; move 1 1 = -1");
        run("Index: no such what", plan, "move 0 2 = index; move 0 -1 = index; move 1 MOST = index",
                "move 1 LEAST = index");
        run("Turn: there is no plan", "move 0 0 = turn; move 0 1 = turn", plan, "replay 0",
                "move 0 0 = turn");
        run("Range: it has no such move", plan, "move 2 0 = range; move 2 1 = range",
                "move -1 0 = range; move -1 1 = range; move MOST 0 = range; move LEAST 1 = range");
        run("Range: an empty plan has none", "run 0; move 0 0 = range; move 0 1 = range");
        run("Index ahead of turn", "move 0 2 = index; move 0 -1 = index; move -1 2 = index");
        run("Index ahead of range", plan, "move 2 2 = index; move -1 -1 = index");
        run("Turn ahead of range", "move -1 0 = turn; move MOST 1 = turn; move LEAST 0 = turn");
    }

    private static void promiseReplay() {
        String plan = "put 0 1 1; put 0 1 1; want 0 0; run 1 = 1";
        run("Turn: there is no plan", "replay 0 = turn; replay 1 = turn");
        run("Turn ahead of range", "replay -1 = turn; replay MOST = turn; replay LEAST = turn");
        run("Range: it has fewer moves", plan, "replay 3 = range; replay MOST = range; moves = 2",
                "replay 2 = 1");
        run("Range: n is below 0", plan, "replay -1 = range; replay LEAST = range; moves = 2");
        run("There is no plan then: none of its moves", plan, "replay 0 = 0; replay 0 = turn",
                "moves = turn; move 0 0 = turn; proved = turn; at 1 0 = 0; at 1 1 = 1; bound = 1");
        run("There is no plan then: some of its moves", plan, "replay 1 = 0; moves = turn",
                "replay 1 = turn; proved = turn; at 1 0 = 1; at 1 1 = 0; at 0 0 = 0; bound = 0");
        run("There is no plan then: all of its moves", plan, "replay 2 = 1; moves = turn",
                "replay 0 = turn; proved = turn; at 0 0 = -1; at 0 1 = -1");
        run("How many are gone in all", plan, "replay 2 = 1; want 1 5; run 0; replay 0 = 1; run 0",
                "replay 1 = 2; run 0; replay 0 = 2");
        run("All ten are gone", "piles 2 5", times(5, "put 0 1 1"), times(5, "put 1 1 1"),
                "want 0 9; want 1 8; want 2 7; want 3 6; want 4 5; want 5 4; want 6 3; want 7 2",
                "want 8 1; want 9 0; run 0 = 0; moves = 10; replay 11 = range; replay 10 = 10",
                "bound = 0; run 0 = 0; moves = 0; tidy 20 = 0");
    }

    private static void promiseAt() {
        run("Index: no such piece", "at 0 0 = index; put 0 1 1; at 1 0 = index; at -1 0 = index",
                "at MOST 4 = index; at LEAST 4 = index; at 0 0 = 0");
        run("Index: no such what", "put 0 1 1; at 0 5 = index; at 0 -1 = index; at 0 MOST = index",
                "at 0 LEAST = index");
        run("Index: neither", "at 0 5 = index; at -1 -1 = index");
        run("Its pile (-1: gone), its level (-1)", "piles 4 5; put 3 1 1; put 3 1 1; at 1 0 = 3",
                "at 1 1 = 1; want 1 0; run 0; replay 1; at 1 0 = -1; at 1 1 = -1; at 0 0 = 3",
                "at 0 1 = 0");
        run("Its pile and level, after a move", "put 0 1 1; put 0 1 1; put 1 1 1; want 0 0; tidy 1 = 1",
                "at 1 0 = 1; at 1 1 = 1; at 0 1 = 0; at 2 1 = 0");
        run("Whether it blocks (1, 0)", "put 0 1 1; put 0 1 1; at 1 2 = 0; want 0 0; at 1 2 = 1",
                "at 0 2 = 0; run 1; replay 2; at 0 2 = 0; at 1 2 = 0");
        run("Its time (-1: not wanted)", "put 0 1 1; at 0 3 = -1; want 0 0; at 0 3 = 0; want 0 99",
                "at 0 3 = 99; want 0 -1; at 0 3 = -1");
        run("It stays when it is gone", "put 0 1 1; want 0 99; run 0; replay 1; at 0 3 = 99");
        run("Its wagon (-1)", "put 0 1 1; at 0 4 = -1; want 0 0; run 0; replay 1; wagon 1",
                "at 0 4 = -1; load 0 = 0; at 0 4 = 0");
        run("Its wagon, the last one", "put 0 9 1; want 0 0; run 0; replay 1; wagon 8; wagon 8",
                "wagon 8; wagon 9; load 0 = 3; at 0 4 = 3; at 0 0 = -1");
        run("The last piece", "piles 2 5", times(5, "put 0 1 1"), times(5, "put 1 1 1"),
                "at 9 0 = 1; at 9 1 = 4; at 9 2 = 0; at 9 3 = -1; at 9 4 = -1; at 10 0 = index");
    }

    private static void promiseTidy() {
        String two = "piles 2 4; put 0 1 1; put 0 1 1; put 0 1 1; want 0 0";
        run("Range: n", "tidy -1 = range; tidy LEAST = range; tidy 0 = 0");
        run("Range: n", "tidy 21 = range; tidy MOST = range; tidy 20 = 0");
        run("Range: n, nothing moves", two, "run 9 = 2; tidy 21 = range; tidy -1 = range; moves = 3",
                "at 2 0 = 0");
        run("N at most: none", two, "tidy 0 = 0; at 2 0 = 0; bound = 2");
        run("N at most: one of two", two, "tidy 1 = 1; at 2 0 = 1; at 1 0 = 0; bound = 1");
        run("N at most: just as many", two, "tidy 2 = 2; at 2 1 = 0; at 1 0 = 1; at 1 1 = 1; bound = 0");
        run("Without one it ends", two, "tidy 20 = 2; bound = 0; tidy 20 = 0");
        run("Without one it ends: empty", "tidy 1 = 0; piles 4 5; tidy 20 = 0");
        run("To another pile: there is none", "piles 1 5; put 0 1 1; put 0 1 1; want 0 0; tidy 20 = 0",
                "at 1 1 = 1");
        run("To another pile: it is full", "piles 2 2; put 0 1 1; put 0 1 1; put 1 1 1; put 1 1 1",
                "want 0 0; tidy 20 = 0; at 1 0 = 0");
        run("To another pile: it has one level left", "piles 2 2; put 0 1 1; put 0 1 1; put 1 1 1",
                "want 0 0; tidy 20 = 1; at 1 0 = 1; at 1 1 = 1");
        run("On top of which it may lie: as long", "put 0 1 5; put 0 1 5; put 1 1 5; want 0 0",
                "tidy 20 = 1; at 1 0 = 1");
        run("On top of which it may lie: longer by one", "put 0 1 5; put 0 1 5; put 1 1 4; want 0 0",
                "tidy 20 = 0; at 1 0 = 0");
        run("And would not block: one that leaves ahead", "put 0 1 1; put 0 1 1; put 1 1 1; want 0 0",
                "want 1 5; want 2 4; tidy 20 = 0; want 2 6; tidy 20 = 1; at 1 0 = 1");
        run("And would not block: the same time, by number", "put 0 1 1; put 0 1 1; put 1 1 1",
                "want 0 0; want 1 5; want 2 5; tidy 20 = 1; at 1 0 = 1; at 1 2 = 0");
        run("And would not block: at whatever level", "put 0 1 1; put 0 1 1; put 1 1 1; put 1 1 1",
                "want 0 0; want 2 9; tidy 20 = 0; want 1 8; tidy 20 = 1; at 1 1 = 2");
        run("A top piece that blocks: the top does not", "put 0 1 1; put 0 1 1; put 0 1 1; want 0 5",
                "want 2 4; at 1 2 = 1; at 2 2 = 0; tidy 20 = 0; at 2 1 = 2");
        run("The first such one by piles", "piles 3 4; put 0 1 1; put 0 1 1; put 1 1 1; put 1 1 1",
                "want 0 0; want 2 0; tidy 1 = 1; at 1 0 = 2; at 3 0 = 1; tidy 1 = 1; at 3 0 = 2");
        run("The first such one by piles: one without a place is none",
                "piles 3 4; put 0 1 9; put 0 1 5; put 1 1 9; put 1 1 3; put 2 1 3; want 0 0; want 2 0",
                "tidy 1 = 1; at 3 0 = 2; at 1 0 = 0; tidy 20 = 0");
        run("Then by piles again: to the first", "piles 4 4; put 2 1 1; put 2 1 1; want 0 0",
                "tidy 1 = 1; at 1 0 = 0");
        run("The first such one each time anew",
                "piles 3 4; put 0 1 9; put 0 1 5; put 1 1 6; put 1 1 3; put 2 1 3; want 0 1; want 1 5",
                "want 2 9; tidy 1 = 1; at 3 0 = 2; tidy 1 = 1; at 1 0 = 1; tidy 1 = 0");
        run("The plan is kept until a piece moves", two, "run 9 = 2; tidy 1 = 1; moves = turn",
                "proved = turn; move 0 0 = turn; replay 0 = turn");
        run("The plan is kept when none moves", two, "run 9 = 2; tidy 0 = 0; moves = 3; proved = 1",
                "replay 3 = 1; run 0 = 0; tidy 20 = 0; moves = 0; proved = 1");
    }

    private static void promiseWagon() {
        run("AXLE load (1 .. 5,000)", "wagon 0 = range; wagon -1 = range; wagon LEAST = range",
                "wagon 1 = 0");
        run("AXLE load (1 .. 5,000)", "wagon 5001 = range; wagon MOST = range; wagon 5000 = 0");
        run("Its number", "wagon 1 = 0; wagon 0 = range; wagon 1 = 1; wagon 1 = 2; wagon 1 = 3");
        run("Meaning: there are 4", times(4, "wagon 1"), "wagon 1 = meaning; wagon 5000 = meaning");
        run("Range ahead of meaning", times(4, "wagon 1"), "wagon 0 = range; wagon 5001 = range",
                "wagon LEAST = range; wagon MOST = range");
        run("The plan is kept, no piece moves", "put 0 1 1; want 0 0; run 0; wagon 1; wagon 0 = range",
                "moves = 1; proved = 1");
    }

    private static void promiseLoad() {
        String gone = "put 0 10 1; put 1 1 1; want 0 0; want 1 0; run 0; replay 2 = 2";
        run("Index: no such piece", "load 0 = index", gone, "load 2 = index; load -1 = index",
                "load MOST = index; load LEAST = index");
        run("Turn: it is not gone", "put 0 1 1; load 0 = turn; wagon 1; load 0 = turn; want 0 0",
                "load 0 = turn; run 0; load 0 = turn; replay 0; load 0 = turn; at 0 4 = -1");
        run("Turn: it is in a wagon", gone, "wagon 20; load 0 = 0; load 0 = turn; wagon 20",
                "load 0 = turn; at 0 4 = 0");
        run("Turn ahead of meaning: not gone", "put 0 10 1; load 0 = turn; wagon 1; load 0 = turn");
        run("Turn ahead of meaning: in a wagon", gone, "wagon 10; load 0 = 0; load 0 = turn");
        run("Index ahead of meaning", "load 0 = index; put 0 1 1; load 1 = index");
        run("Meaning: none has room, there is none", gone, "load 0 = meaning; load 1 = meaning");
        run("Meaning: none has room, of four", gone, times(4, "wagon 9"), "load 0 = meaning",
                "load 1 = 0; load 0 = meaning; at 0 4 = -1");
        run("Meaning: none has room, by one kilo", gone, "wagon 9; load 0 = meaning; at 0 4 = -1",
                "wagon 10; load 0 = 1");
        run("The kilos then are not above it: just as many", gone, "wagon 11; load 0 = 0; load 1 = 0");
        run("The kilos then are not above it: what is in it counts", gone, "wagon 10; load 0 = 0",
                "load 1 = meaning; at 1 4 = -1; wagon 1; load 1 = 1");
        run("The first wagon (by numbers)", gone, "wagon 5000; wagon 10; load 0 = 0; load 1 = 0");
        run("The first wagon (by numbers), not the last that took one", gone,
                "wagon 1; wagon 11; load 0 = 1; load 1 = 0");
        run("Kilos 1,000, five on an axle load of 5,000", "piles 2 5", times(5, "put 0 1000 1"),
                "put 1 1 1; want 4 0; want 3 1; want 2 2; want 1 3; want 0 4; want 5 5; run 0 = 0",
                "replay 6 = 6; wagon 5000; load 0 = 0; load 1 = 0; load 2 = 0; load 3 = 0",
                "load 4 = 0; load 5 = meaning; wagon 1 = 1; load 5 = 1; at 4 4 = 0; at 5 4 = 1");
        run("The heaviest, an axle load too small", "put 0 1000 1; want 0 0; run 0; replay 1",
                "wagon 999; load 0 = meaning; wagon 1000; load 0 = 1");
        run("The plan is kept, no piece moves", gone, "wagon 10; run 0; load 0 = 0; load 0 = turn",
                "load 1 = meaning; moves = 0; proved = 1");
    }

    private static void manyCalls() {
        run("At most 512 calls", times(510, "run 0 = 0"), "put 0 1 1 = 0; at 0 1 = 0");
        run("At most 512 calls: piles told anew", times(255, "piles 4 5; put 3 1 100 = 0"),
                "put 3 1 100 = 1; at 1 1 = 1");
    }

    public static void main(String[] args) {
        newObject();
        promisePiles();
        promisePut();
        promiseWant();
        promiseMay();
        promiseBound();
        promiseRun();
        promiseProved();
        promiseMoves();
        promiseMove();
        promiseReplay();
        promiseAt();
        promiseTidy();
        promiseWagon();
        promiseLoad();
        manyCalls();
        EDGES.end();
    }
}
