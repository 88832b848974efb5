/** Each promise of the document: ordinary inputs, its edges, wrong inputs. */
public final class PromisesTest {
    private static final Due DUE = new Due();

    /** A yard of equal pieces, as many on each pile as told. */
    private static PileLifts yard(int levels, int... heights) {
        PileLifts x = new PileLifts();
        x.piles(heights.length, levels);
        for (int pile = 0; pile < heights.length; pile++) {
            for (int i = 0; i < heights[pile]; i++) {
                x.put(pile, 10, 5);
            }
        }
        return x;
    }

    /** A yard of which so many pieces of these kilos are gone. */
    private static PileLifts gone(int... kilos) {
        PileLifts x = new PileLifts();
        x.piles(4, 5);
        for (int i = 0; i < kilos.length; i++) {
            x.put(i % 4, kilos[i], 5);
            x.want(i, kilos.length - i);
        }
        x.run(0);
        x.replay(kilos.length);
        return x;
    }

    private static void plan(String what, PileLifts x, int... row) {
        DUE.is(what + ": moves", row.length / 2, () -> x.moves());
        for (int i = 0; i < row.length; i++) {
            int k = i;
            DUE.is(what + ": move " + k / 2 + ", " + k % 2, row[k], () -> x.move(k / 2, k % 2));
        }
        DUE.throwsRange(what + ": move behind the last", () -> x.move(row.length / 2, 0));
    }

    private static void place(String what, PileLifts x, int piece, int pile, int level) {
        DUE.is(what + ": pile of " + piece, pile, () -> x.at(piece, 0));
        DUE.is(what + ": level of " + piece, level, () -> x.at(piece, 1));
    }

    private static void noSearch(String what, PileLifts x) {
        DUE.throwsTurn(what + ": proved", () -> x.proved() ? 1 : 0);
        DUE.throwsTurn(what + ": moves", () -> x.moves());
        DUE.throwsTurn(what + ": move", () -> x.move(0, 0));
        DUE.throwsTurn(what + ": replay", () -> x.replay(0));
    }

    private static void piles(PileLifts x, int piles, int levels, boolean right) {
        Due.Call call = () -> {
            x.piles(piles, levels);
            return 0;
        };
        DUE.is("piles " + piles + " " + levels, Due.told(call),
                right ? "0" : "throws.IllegalArgumentException");
    }

    private static Due.Call wanting(PileLifts x, int piece, int time) {
        return () -> {
            x.want(piece, time);
            return 0;
        };
    }

    private static void newObject() {
        PileLifts x = new PileLifts();
        DUE.is("new: bound", 0, () -> x.bound());
        noSearch("new", x);
        DUE.throwsIndex("new: no piece", () -> x.at(0, 0));
        DUE.throwsIndex("new: no pile 2", () -> x.put(2, 1, 1));
        for (int i = 0; i < 8; i++) {
            int pile = i / 4;
            DUE.is("new: put", i, () -> x.put(pile, 1, 1));
            place("new", x, i, pile, i % 4);
        }
        DUE.throwsMeaning("new: pile 0 is full", () -> x.put(0, 1, 1));
        DUE.throwsMeaning("new: pile 1 is full", () -> x.put(1, 1, 1));
        DUE.is("new: wagons are none", 0, () -> x.wagon(1));
    }

    private static void promisePiles() {
        PileLifts x = gone(3);
        x.wagon(5);
        x.load(0);
        piles(x, 0, 4, false);
        piles(x, 5, 4, false);
        piles(x, 2, 0, false);
        piles(x, 2, 6, false);
        piles(x, -1, -1, false);
        piles(x, Integer.MIN_VALUE, 3, false);
        piles(x, 3, Integer.MAX_VALUE, false);
        DUE.is("piles: a wrong call forgets nothing", 0, () -> x.at(0, 4));
        x.put(0, 1, 1);
        x.run(0);
        piles(x, 1, 1, true);
        noSearch("piles", x);
        DUE.throwsIndex("piles: pieces are forgotten", () -> x.at(0, 0));
        DUE.throwsIndex("piles: there is one", () -> x.put(1, 1, 1));
        DUE.is("piles: numbers begin again", 0, () -> x.put(0, 1, 2));
        place("piles: empty again", x, 0, 0, 0);
        DUE.is("piles: a time is forgotten", -1, () -> x.at(0, 3));
        DUE.is("piles: a wagon is forgotten", -1, () -> x.at(0, 4));
        DUE.throwsMeaning("piles: one level", () -> x.put(0, 1, 1));
        DUE.is("piles: wagons are forgotten", 0, () -> x.wagon(5));
        piles(x, 4, 5, true);
        for (int i = 0; i < 5; i++) {
            x.put(3, 1, 1);
        }
        DUE.throwsMeaning("piles: five levels", () -> x.put(3, 1, 1));
    }

    private static void promisePut() {
        PileLifts x = new PileLifts();
        x.piles(3, 3);
        DUE.throwsIndex("put: pile -1", () -> x.put(-1, 1, 1));
        DUE.throwsIndex("put: pile 3, ahead of the range", () -> x.put(3, 0, 0));
        DUE.throwsIndex("put: a pile far away", () -> x.put(Integer.MAX_VALUE, 1, 1));
        DUE.throwsRange("put: kilos 0", () -> x.put(0, 0, 1));
        DUE.throwsRange("put: kilos 1001", () -> x.put(0, 1001, 1));
        DUE.throwsRange("put: length 0", () -> x.put(0, 1, 0));
        DUE.throwsRange("put: length 101", () -> x.put(0, 1, 101));
        DUE.is("put: the most", 0, () -> x.put(0, 1000, 100));
        DUE.is("put: the least", 1, () -> x.put(1, 1, 1));
        DUE.throwsMeaning("put: longer than what it lies on", () -> x.put(1, 1, 2));
        DUE.is("put: as long", 2, () -> x.put(1, 1, 1));
        DUE.is("put: shorter", 3, () -> x.put(0, 1, 99));
        place("put", x, 3, 0, 1);
        DUE.is("put: not wanted", -1, () -> x.at(3, 3));
        x.put(0, 1, 1);
        DUE.throwsMeaning("put: full", () -> x.put(0, 1, 1));
        DUE.throwsRange("put: full, range first", () -> x.put(0, 0, 1));
        x.run(10);
        DUE.throwsMeaning("put: full again", () -> x.put(0, 1, 1));
        DUE.is("put: a wrong call keeps the plan", 0, () -> x.moves());
        x.put(2, 1, 1);
        noSearch("put", x);

        PileLifts ten = gone(1, 1, 1, 1, 1, 1, 1, 1, 1, 1);
        DUE.throwsMeaning("put: there are 10, gone or not", () -> ten.put(0, 1, 1));
        DUE.throwsIndex("put: there are 10, no such pile", () -> ten.put(4, 1, 1));
    }

    private static void promiseWant() {
        PileLifts x = yard(4, 2, 0);
        DUE.throwsIndex("want: piece -1", wanting(x, -1, 1));
        DUE.throwsIndex("want: piece 2, ahead of the range", wanting(x, 2, 100));
        DUE.throwsRange("want: time 100", wanting(x, 0, 100));
        DUE.throwsRange("want: time -2", wanting(x, 0, -2));
        DUE.is("want: the last time", 0, wanting(x, 0, 99));
        DUE.is("want: its time", 99, () -> x.at(0, 3));
        DUE.is("want: the first time", 0, wanting(x, 1, 0));
        DUE.is("want: its time is 0", 0, () -> x.at(1, 3));
        x.run(10);
        DUE.throwsRange("want: wrong", wanting(x, 0, 100));
        DUE.is("want: a wrong call keeps the plan", 2, () -> x.moves());
        DUE.is("want: again", 0, wanting(x, 0, 99));
        noSearch("want", x);
        x.run(10);
        DUE.is("want: not any more", 0, wanting(x, 1, -1));
        noSearch("want -1", x);
        DUE.is("want: no time", -1, () -> x.at(1, 3));
        DUE.is("want: one re-lift then", 1, () -> x.run(10));
        plan("want", x, 1, 1, 0, -1);
        x.replay(2);
        DUE.throwsTurn("want: gone", wanting(x, 0, 3));
        DUE.throwsTurn("want: gone, ahead of the range", wanting(x, 0, 100));
        DUE.is("want: the time stays", 99, () -> x.at(0, 3));
    }

    private static void promiseMay() {
        PileLifts x = new PileLifts();
        DUE.throwsIndex("may: no pieces", () -> x.may(0, 0) ? 1 : 0);
        x.put(0, 1, 7);
        x.put(0, 1, 6);
        x.put(1, 1, 7);
        DUE.is("may: shorter on longer", 1, () -> x.may(0, 1) ? 1 : 0);
        DUE.is("may: longer on shorter", 0, () -> x.may(1, 0) ? 1 : 0);
        DUE.is("may: as long", 1, () -> x.may(0, 2) ? 1 : 0);
        DUE.is("may: on itself", 1, () -> x.may(1, 1) ? 1 : 0);
        DUE.throwsIndex("may: no such one below", () -> x.may(3, 0) ? 1 : 0);
        DUE.throwsIndex("may: no such one above", () -> x.may(0, 3) ? 1 : 0);
        DUE.throwsIndex("may: -1 below", () -> x.may(-1, 0) ? 1 : 0);
        DUE.throwsIndex("may: -1 above", () -> x.may(0, -1) ? 1 : 0);
        x.want(1, 0);
        x.run(0);
        x.replay(1);
        DUE.is("may: one is gone", 1, () -> x.may(0, 1) ? 1 : 0);
    }

    private static void promiseBound() {
        PileLifts x = yard(5, 5, 2);
        DUE.is("bound: none wanted", 0, () -> x.bound());
        x.want(1, 5);
        DUE.is("bound: at whatever level above", 3, () -> x.bound());
        x.want(3, 4);
        DUE.is("bound: one that leaves ahead does not block", 2, () -> x.bound());
        x.want(3, 6);
        DUE.is("bound: one that leaves later does", 3, () -> x.bound());
        x.want(3, 5);
        DUE.is("bound: the same time, a higher number", 3, () -> x.bound());
        x.want(0, 5);
        DUE.is("bound: the same time, a lower number", 4, () -> x.bound());
        x.want(0, -1);
        x.want(6, 0);
        DUE.is("bound: above one that is not wanted", 3, () -> x.bound());

        PileLifts moved = new PileLifts();
        moved.piles(3, 4);
        moved.put(0, 1, 5);
        moved.put(1, 1, 9);
        moved.put(1, 1, 7);
        moved.put(2, 1, 5);
        moved.want(1, 0);
        moved.run(100);
        plan("bound: piece 0 makes room", moved, 0, 2, 2, 0, 1, -1);
        moved.replay(1);
        place("bound: piece 0 lies above piece 3", moved, 0, 2, 1);
        moved.want(3, 0);
        DUE.is("bound: piece 0 counts too", 2, () -> moved.bound());
        moved.want(0, 0);
        DUE.is("bound: the same time, the lower number above", 1, () -> moved.bound());
    }

    private static void promiseRun() {
        PileLifts x = yard(4, 4, 2, 0);
        DUE.throwsRange("run: -1", () -> x.run(-1));
        DUE.throwsRange("run: 100001", () -> x.run(100001));
        DUE.is("run: nothing wanted", 0, () -> x.run(0));
        DUE.throwsRange("run: far away", () -> x.run(Integer.MIN_VALUE));
        DUE.is("run: a wrong call keeps the plan", 0, () -> x.moves());
        x.want(0, 1);
        x.want(1, 0);
        x.want(4, 2);
        DUE.is("run: three", 3, () -> x.run(1000));
        plan("run", x, 3, 2, 2, 2, 1, -1, 0, -1, 5, 0, 4, -1);
        DUE.is("run: the most nodes", 3, () -> x.run(100000));
        place("run moves nothing", x, 3, 0, 3);
        place("run moves nothing", x, 1, 0, 1);
        place("run moves nothing", x, 4, 1, 0);
        DUE.is("run: none left", -1, () -> x.run(0));
        DUE.is("run: not proved", 0, () -> x.proved() ? 1 : 0);
        DUE.throwsTurn("run: its plan is no more", () -> x.moves());

        PileLifts back = new PileLifts();
        back.piles(2, 2);
        back.put(0, 1, 5);
        back.put(0, 1, 5);
        back.put(1, 1, 5);
        back.want(0, 1);
        back.want(2, 0);
        DUE.is("run: the limit is the bound at first", 1, () -> back.run(1));
        plan("run, to the pile that is free", back, 2, -1, 1, 1, 0, -1);

        PileLifts deep = new PileLifts();
        deep.piles(3, 5);
        deep.put(0, 1, 9);
        deep.put(0, 1, 7);
        deep.put(0, 1, 5);
        deep.put(1, 1, 5);
        deep.put(2, 1, 6);
        deep.want(0, 0);
        DUE.is("run: bound 2", 2, () -> deep.bound());
        DUE.is("run: a longer piece waits for an empty pile", 3, () -> deep.run(1000));
        plan("run, one round further", deep, 2, 2, 3, 2, 1, 1, 0, -1);
    }

    /** The nodes of a search, told by the least number with which it is proved. */
    private static int nodesOf(PileLifts x) {
        for (int nodes = 0; nodes <= 100000; nodes++) {
            x.run(nodes);
            if (x.proved()) {
                return nodes;
            }
        }
        return -1;
    }

    private static void promiseProved() {
        PileLifts x = new PileLifts();
        noSearch("proved: new", x);
        x.put(0, 100, 50);
        x.put(0, 50, 50);
        x.put(0, 10, 5);
        x.put(0, 10, 4);
        x.put(1, 10, 9);
        x.want(1, 5);
        DUE.throwsTurn("proved: none since", () -> x.proved() ? 1 : 0);
        x.run(71);
        DUE.is("proved: one node too few", 0, () -> x.proved() ? 1 : 0);
        DUE.throwsTurn("proved: not, and no plan", () -> x.moves());
        DUE.is("proved: there is none", -1, () -> x.run(72));
        DUE.is("proved: none up to 12", 1, () -> x.proved() ? 1 : 0);
        DUE.throwsTurn("proved: and no plan", () -> x.moves());
        DUE.throwsTurn("proved: nothing to replay", () -> x.replay(0));
        x.run(0);
        x.wagon(5);
        DUE.is("proved: a wagon tells nothing of it", 0, () -> x.proved() ? 1 : 0);
        DUE.is("proved: its nodes", 72, () -> nodesOf(x));

        PileLifts full = yard(3, 3, 3);
        full.want(0, 0);
        DUE.is("proved: full", -1, () -> full.run(0));
        DUE.is("proved: no re-lift is legal, none is tried", 1, () -> full.proved() ? 1 : 0);

        PileLifts one = yard(5, 3);
        one.want(0, 0);
        DUE.is("proved: one pile", -1, () -> one.run(10));
        DUE.is("proved: of one pile", 1, () -> one.proved() ? 1 : 0);

        PileLifts last = yard(4, 2, 0);
        last.want(0, 0);
        DUE.is("proved: the last node finds it", 1, () -> last.run(1));
        DUE.is("proved: a plan was found", 1, () -> last.proved() ? 1 : 0);
    }

    private static void promiseMoves() {
        PileLifts x = yard(4, 3, 0);
        DUE.throwsTurn("moves: none", () -> x.moves());
        x.run(0);
        DUE.is("moves: an empty plan", 0, () -> x.moves());
        DUE.throwsRange("moves: it has no move 0", () -> x.move(0, 0));
        x.want(1, 3);
        DUE.throwsTurn("moves: wanted since", () -> x.moves());
        x.run(10);
        DUE.is("moves: re-lifts and leavings", 2, () -> x.moves());
        x.wagon(3);
        x.bound();
        x.tidy(0);
        DUE.is("moves: kept", 2, () -> x.moves());
        x.run(0);
        DUE.throwsTurn("moves: the search found none", () -> x.moves());
    }

    private static void promiseMove() {
        PileLifts x = yard(4, 2, 0, 0);
        DUE.throwsIndex("move: what 2, ahead of the turn", () -> x.move(0, 2));
        DUE.throwsIndex("move: what -1", () -> x.move(0, -1));
        DUE.throwsTurn("move: no plan, ahead of the range", () -> x.move(-1, 0));
        x.want(0, 3);
        x.run(10);
        plan("move", x, 1, 1, 0, -1);
        DUE.throwsRange("move: -1", () -> x.move(-1, 0));
        DUE.throwsRange("move: 2", () -> x.move(2, 1));
        DUE.throwsRange("move: far away", () -> x.move(Integer.MAX_VALUE, 1));
        DUE.throwsIndex("move: what, ahead of the range", () -> x.move(2, 2));
    }

    private static void promiseReplay() {
        PileLifts x = yard(4, 3, 0, 0);
        DUE.throwsTurn("replay: no plan", () -> x.replay(0));
        DUE.throwsTurn("replay: no plan, ahead of the range", () -> x.replay(-1));
        x.want(0, 3);
        x.want(2, 4);
        x.run(100);
        plan("replay", x, 2, 1, 1, 2, 0, -1, 2, -1);
        DUE.throwsRange("replay: -1", () -> x.replay(-1));
        DUE.throwsRange("replay: 5", () -> x.replay(5));
        DUE.is("replay: a wrong call keeps the plan", 4, () -> x.moves());
        DUE.is("replay: a re-lift", 0, () -> x.replay(1));
        place("replay", x, 2, 1, 0);
        noSearch("replay", x);
        x.run(100);
        plan("replay, the rest", x, 1, 2, 0, -1, 2, -1);
        DUE.is("replay: nothing", 0, () -> x.replay(0));
        noSearch("replay 0", x);
        x.run(100);
        DUE.is("replay: all", 2, () -> x.replay(x.moves()));
        place("replay", x, 0, -1, -1);
        place("replay", x, 1, 2, 0);
        place("replay", x, 2, -1, -1);
        x.want(1, 0);
        x.run(0);
        DUE.is("replay: gone in all", 3, () -> x.replay(1));
    }

    private static void promiseAt() {
        PileLifts x = yard(4, 1, 3);
        x.want(2, 7);
        place("at", x, 0, 0, 0);
        place("at", x, 3, 1, 2);
        DUE.is("at: it blocks", 1, () -> x.at(3, 2));
        DUE.is("at: the wanted one does not", 0, () -> x.at(2, 2));
        DUE.is("at: one below does not", 0, () -> x.at(1, 2));
        DUE.is("at: time", 7, () -> x.at(2, 3));
        DUE.is("at: no time", -1, () -> x.at(3, 3));
        DUE.is("at: no wagon", -1, () -> x.at(3, 4));
        DUE.throwsIndex("at: what 5", () -> x.at(0, 5));
        DUE.throwsIndex("at: what -1", () -> x.at(0, -1));
        DUE.throwsIndex("at: piece 4", () -> x.at(4, 0));
        DUE.throwsIndex("at: piece -1", () -> x.at(-1, 0));
        x.run(10);
        x.replay(2);
        place("at: gone", x, 2, -1, -1);
        DUE.is("at: gone, it does not block", 0, () -> x.at(2, 2));
        DUE.is("at: gone, its time stays", 7, () -> x.at(2, 3));
        x.wagon(9);
        x.wagon(10);
        x.load(2);
        DUE.is("at: its wagon", 1, () -> x.at(2, 4));
        place("at: in a wagon", x, 2, -1, -1);
    }

    private static void promiseTidy() {
        PileLifts x = yard(4, 4, 2, 0);
        DUE.throwsRange("tidy: -1", () -> x.tidy(-1));
        DUE.throwsRange("tidy: 21", () -> x.tidy(21));
        DUE.is("tidy: nothing blocks", 0, () -> x.tidy(20));
        x.want(0, 1);
        x.want(1, 0);
        x.want(4, 2);
        x.run(1000);
        DUE.is("tidy: none asked", 0, () -> x.tidy(0));
        DUE.is("tidy: the plan is kept", 6, () -> x.moves());
        DUE.is("tidy: one", 1, () -> x.tidy(1));
        noSearch("tidy", x);
        place("tidy: where it does not block", x, 3, 2, 0);
        DUE.is("tidy: until there is none", 2, () -> x.tidy(20));
        place("tidy", x, 2, 2, 1);
        place("tidy", x, 5, 2, 2);
        place("tidy: what does not block stays", x, 1, 0, 1);
        x.run(0);
        DUE.is("tidy: no more", 0, () -> x.tidy(5));
        DUE.is("tidy: the plan is kept when nothing moved", 3, () -> x.moves());

        PileLifts full = yard(2, 2, 2);
        full.want(0, 0);
        DUE.is("tidy: no room", 0, () -> full.tidy(1));

        PileLifts longer = new PileLifts();
        longer.piles(3, 4);
        longer.put(0, 1, 9);
        longer.put(0, 1, 8);
        longer.put(1, 1, 7);
        longer.want(0, 3);
        DUE.is("tidy: not on a shorter one", 1, () -> longer.tidy(20));
        place("tidy", longer, 1, 2, 0);

        PileLifts first = yard(4, 0, 0, 2);
        first.want(0, 3);
        DUE.is("tidy: to the first pile", 1, () -> first.tidy(20));
        place("tidy", first, 1, 0, 0);

        PileLifts later = yard(4, 2, 1);
        later.want(0, 3);
        later.want(1, 4);
        later.want(2, 5);
        DUE.is("tidy: on one that leaves later", 1, () -> later.tidy(20));
        place("tidy", later, 1, 1, 1);
    }

    private static void promiseWagon() {
        PileLifts x = new PileLifts();
        DUE.throwsRange("wagon: 0", () -> x.wagon(0));
        DUE.throwsRange("wagon: 5001", () -> x.wagon(5001));
        DUE.is("wagon: the least", 0, () -> x.wagon(1));
        DUE.is("wagon: the most", 1, () -> x.wagon(5000));
        x.run(0);
        DUE.is("wagon: another", 2, () -> x.wagon(7));
        DUE.is("wagon: the plan is kept", 0, () -> x.moves());
        DUE.is("wagon: the fourth", 3, () -> x.wagon(7));
        DUE.throwsMeaning("wagon: there are 4", () -> x.wagon(7));
        DUE.throwsRange("wagon: there are 4, range first", () -> x.wagon(0));
    }

    private static void promiseLoad() {
        PileLifts x = gone(30, 20, 10, 11, 1000);
        DUE.throwsIndex("load: 5", () -> x.load(5));
        DUE.throwsIndex("load: -1", () -> x.load(-1));
        DUE.throwsMeaning("load: no wagon", () -> x.load(0));
        x.wagon(29);
        x.wagon(40);
        DUE.is("load: the first with room", 1, () -> x.load(0));
        DUE.throwsTurn("load: it is in a wagon", () -> x.load(0));
        DUE.is("load: the first", 0, () -> x.load(1));
        x.run(0);
        DUE.throwsMeaning("load: one kilo too much", () -> x.load(3));
        DUE.is("load: none has room", -1, () -> x.at(3, 4));
        DUE.is("load: up to the axle load", 1, () -> x.load(2));
        DUE.is("load: the plan is kept", 0, () -> x.moves());
        DUE.throwsMeaning("load: too heavy", () -> x.load(4));
        x.wagon(5000);
        DUE.is("load: another wagon", 2, () -> x.load(4));
        DUE.is("load: where it is", 2, () -> x.at(4, 4));
        x.put(0, 1, 1);
        DUE.throwsTurn("load: not gone", () -> x.load(5));
        PileLifts none = yard(4, 1);
        DUE.throwsTurn("load: not gone, no wagon", () -> none.load(0));
    }

    public static void main(String[] args) {
        newObject();
        promisePiles();
        promisePut();
        promiseWant();
        promiseMay();
        promiseBound();
        promiseRun();
        promiseProved();
        promiseMoves();
        promiseMove();
        promiseReplay();
        promiseAt();
        promiseTidy();
        promiseWagon();
        promiseLoad();
        DUE.end();
    }
}
