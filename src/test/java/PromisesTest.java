import java.util.NoSuchElementException;

/** A section for each promise of the document: ordinary inputs, its edges, and wrong inputs. */
public final class PromisesTest {
    private static final Class<IllegalArgumentException> ARGUMENT = IllegalArgumentException.class;
    private static final Class<IllegalStateException> STATE = IllegalStateException.class;
    private static final Class<IndexOutOfBoundsException> INDEX = IndexOutOfBoundsException.class;
    private static final Class<NoSuchElementException> NO_ELEMENT = NoSuchElementException.class;
    private static final Class<UnsupportedOperationException> UNSUPPORTED = UnsupportedOperationException.class;

    private static final Checks CHECKS = new Checks();
    private static final int[] NO_CARDS = {};
    private static String promise = "";
    private static Patiencearchive x = new Patiencearchive();

    private PromisesTest() {
    }

    public static void main(String[] args) {
        typing();
        entriesAndDeals();
        solving();
        meeting();
        lists();
        playersAndLoans();
        waiting();
        trying();
        sums();
        CHECKS.end("PromisesTest");
    }

    private static void begin(String name) {
        promise = name;
        x = new Patiencearchive();
    }

    private static void is(Object due, Checks.Call call) {
        CHECKS.is(promise, due, call);
    }

    private static void refuses(Class<? extends RuntimeException> due, Checks.Call call) {
        CHECKS.refuses(promise, due, call);
    }

    /** A refused call must leave all that can be read as it was. */
    private static void refusesAndKeeps(Class<? extends RuntimeException> due, int players, Checks.Call call) {
        String before = Scene.all(x, players);
        refuses(due, call);
        is(before, () -> Scene.all(x, players));
    }

    private static void refusesNoEntry(Checks.Call below, Checks.Call behind) {
        refuses(INDEX, below);
        refuses(INDEX, behind);
    }

    /** 2 below 1, and an empty pile: the shortest solution is 9 9, another one 1 9 19 or 1 19 9. */
    private static int addTwoOne() {
        return Scene.add(x, Scene.pile(2, 1), NO_CARDS);
    }

    /** 1 below 2, and an empty pile: the shortest solution is 1 9 19. */
    private static int addOneTwo() {
        return Scene.add(x, Scene.pile(1, 2), NO_CARDS);
    }

    private static int addDead() {
        return Scene.add(x, Scene.pile(1, 2), Scene.pile(11, 12));
    }

    // ---- Promises 1 to 5

    private static void typing() {
        begin("1 a new object");
        is(0, () -> x.entries());
        is(0, () -> x.taken());
        is(0, () -> x.keyMoves());
        is(7L, () -> x.checksum());
        is(true, () -> x.isSound());
        is(0, () -> x.wipe());
        is("", () -> Scene.list(x));
        is("", () -> Scene.why(x));
        refuses(INDEX, () -> x.points(0));
        refuses(INDEX, () -> x.state(0));
        is(1, () -> x.days(1));
        Patiencearchive other = new Patiencearchive();
        other.player();
        other.card(1);
        refuses(INDEX, () -> x.points(0));
        is(1, () -> x.card(2));

        typedCards();
        typedPiles();
        typedMoves();

        begin("5 wipe");
        Scene.type(x, Scene.pile(1, 2), Scene.pile(3), NO_CARDS);
        Scene.moves(x, 1, 9);
        is(5, () -> x.wipe());
        is(0, () -> x.wipe());
        is(1, () -> x.card(4));
        is(1, () -> x.pile());
        is(1, () -> x.move(0, 9));
        is(2, () -> x.wipe());
        is(1, () -> x.card(1));
    }

    private static void typedCards() {
        begin("2 card");
        for (int wrong : new int[] {0, -1, 5, 6, 9, 10, 15, 19, 20, 25, 30, 31, 100, -11, Integer.MIN_VALUE, Integer.MAX_VALUE}) {
            refuses(ARGUMENT, () -> x.card(wrong));
        }
        int[] all = {1, 2, 3, 4, 11, 12, 13, 14, 21, 22, 23, 24};
        for (int i = 0; i < 6; i++) {
            int card = all[i];
            is(i + 1, () -> x.card(card));
        }
        x.pile();
        for (int i = 6; i < 12; i++) {
            int card = all[i];
            is(i - 5, () -> x.card(card));
        }
        refuses(STATE, () -> x.card(1));
        refuses(ARGUMENT, () -> x.card(0));
        refuses(ARGUMENT, () -> x.card(25));
        is(12, () -> x.wipe());
        is(1, () -> x.card(1));
        is(2, () -> x.card(1));
    }

    private static void typedPiles() {
        begin("3 pile");
        x.card(1);
        is(1, () -> x.pile());
        is(1, () -> x.card(2));
        is(2, () -> x.pile());
        is(3, () -> x.pile());
        is(4, () -> x.pile());
        refuses(STATE, () -> x.pile());
        is(1, () -> x.card(3));
        refuses(STATE, () -> x.pile());
        is(2, () -> x.card(4));
        is(0, () -> x.add());
        is(5, () -> x.of(0, 'p'));
        is(4, () -> x.cardOf(0, 4, 1));
        is(1, () -> x.pile());
    }

    private static void typedMoves() {
        begin("4 move");
        int[][] wrong = {{-1, 0}, {5, 0}, {9, 0}, {0, -1}, {0, 5}, {0, 8}, {0, 10}, {0, 0}, {4, 4}, {9, 9}, {5, 9}, {-1, 9}};
        for (int[] move : wrong) {
            refuses(ARGUMENT, () -> x.move(move[0], move[1]));
        }
        int[][] right = {{0, 4}, {4, 0}, {0, 9}, {4, 9}, {3, 2}};
        for (int i = 0; i < 40; i++) {
            int[] move = right[i % right.length];
            is(i + 1, () -> x.move(move[0], move[1]));
        }
        refuses(STATE, () -> x.move(0, 9));
        refuses(ARGUMENT, () -> x.move(0, 0));
        refuses(ARGUMENT, () -> x.move(5, 9));
        is(40, () -> x.wipe());
        is(1, () -> x.move(0, 9));
    }

    // ---- Promises 6 to 12, 16 and 17

    private static void entriesAndDeals() {
        whatIsADeal();
        moreThanTwelve();
        copiesOfAnEntry();

        begin("8 entries");
        is(0, () -> x.entries());
        addTwoOne();
        is(1, () -> x.entries());
        addTwoOne();
        is(2, () -> x.entries());

        somethingOfAnEntry();
        statesAndCards();
        firstMoves();
        likeDeals();
    }

    private static void refusesDeal(int[]... piles) {
        x.wipe();
        Scene.type(x, piles);
        refuses(UNSUPPORTED, () -> x.add());
    }

    private static void whatIsADeal() {
        begin("6 add");
        refuses(UNSUPPORTED, () -> x.add());
        refusesDeal(Scene.pile(1));
        refusesDeal(Scene.pile(1, 2, 3));
        refusesDeal(NO_CARDS, NO_CARDS);
        refusesDeal(Scene.pile(2), NO_CARDS);
        refusesDeal(Scene.pile(1, 3), NO_CARDS);
        refusesDeal(Scene.pile(1, 1), NO_CARDS);
        refusesDeal(Scene.pile(1), Scene.pile(1));
        refusesDeal(Scene.pile(1, 2), Scene.pile(11));
        refusesDeal(Scene.pile(1), Scene.pile(12));
        refusesDeal(Scene.pile(1, 2), Scene.pile(11, 13));
        refusesDeal(Scene.pile(1, 2, 11), Scene.pile(12, 12));
        is(0, () -> x.entries());
        // what was typed is still there, and can become a deal
        x.wipe();
        Scene.type(x, Scene.pile(1));
        x.move(0, 9);
        refuses(UNSUPPORTED, () -> x.add());
        is(1, () -> x.pile());
        is(1, () -> x.card(2));
        is(0, () -> x.add());
        is('o', () -> x.state(0));
        is(0, () -> x.wipe());
        is(1, () -> Scene.add(x, Scene.pile(1), Scene.pile(2)));
        is(2, () -> Scene.add(x, Scene.pile(4, 3, 2, 1), Scene.pile(14, 13, 12, 11), Scene.pile(24, 23, 22, 21)));
        is(3, () -> Scene.add(x, NO_CARDS, NO_CARDS, NO_CARDS, NO_CARDS, Scene.pile(1)));
        is(4, () -> Scene.add(x, Scene.pile(11, 1), Scene.pile(21)));
        is(1, () -> x.move(0, 1));
        Scene.type(x, Scene.pile(1), NO_CARDS);
        is(5, () -> x.add());
        is(1, () -> x.move(0, 1));
    }

    private static void moreThanTwelve() {
        begin("6 add, 12 entries");
        for (int i = 0; i < 12; i++) {
            int number = i;
            is(number, () -> addTwoOne());
        }
        refuses(UNSUPPORTED, () -> x.add());
        Scene.type(x, Scene.pile(1), NO_CARDS);
        x.move(0, 9);
        refusesAndKeeps(STATE, 0, () -> x.add());
        is(2, () -> x.wipe());
        is(12, () -> x.entries());
        is("o11:-", () -> Scene.label(x, 11));
    }

    private static void copiesOfAnEntry() {
        begin("7 copies");
        addTwoOne();
        is(1, () -> x.of(0, 'c'));
        for (int wrong : new int[] {0, 4, -1, Integer.MAX_VALUE, Integer.MIN_VALUE}) {
            refusesAndKeeps(ARGUMENT, 0, () -> x.copies(0, wrong));
        }
        refusesNoEntry(() -> x.copies(-1, 1), () -> x.copies(1, 1));
        refuses(INDEX, () -> x.copies(1, 0));
        is(2, () -> x.copies(0, 1));
        is(4, () -> x.copies(0, 2));
        is(7, () -> x.copies(0, 3));
        refusesAndKeeps(STATE, 0, () -> x.copies(0, 3));
        is(9, () -> x.copies(0, 2));
        refuses(STATE, () -> x.copies(0, 1));
        refuses(ARGUMENT, () -> x.copies(0, 4));
        is(9, () -> x.of(0, 'c'));
    }

    private static void somethingOfAnEntry() {
        begin("9 of");
        Scene.players(x, 2);
        Scene.add(x, Scene.pile(3, 2, 1), NO_CARDS, Scene.pile(21, 22, 23));
        is(3, () -> x.of(0, 'p'));
        is(2, () -> x.of(0, 's'));
        is(3, () -> x.of(0, 'r'));
        is(1, () -> x.of(0, 'c'));
        is(0, () -> x.of(0, 'l'));
        is(0, () -> x.of(0, 'w'));
        is(0, () -> x.of(0, 'k'));
        x.lend(0, 0);
        x.await(1, 0);
        is(1, () -> x.of(0, 'l'));
        is(1, () -> x.of(0, 'w'));
        addTwoOne();
        x.solve(1, 100);
        is(2, () -> x.of(1, 'k'));
        Scene.add(x, Scene.pile(1), Scene.pile(11), Scene.pile(21), NO_CARDS, NO_CARDS);
        is(5, () -> x.of(2, 'p'));
        is(3, () -> x.of(2, 's'));
        is(1, () -> x.of(2, 'r'));
        for (char wrong : new char[] {'a', 'P', 0, ' ', 65535}) {
            refuses(ARGUMENT, () -> x.of(0, wrong));
        }
        refusesNoEntry(() -> x.of(-1, 'p'), () -> x.of(3, 'p'));
        refuses(INDEX, () -> x.of(3, 'a'));
    }

    private static void statesAndCards() {
        begin("10 state");
        addTwoOne();
        addDead();
        is('o', () -> x.state(0));
        x.solve(0, 100);
        x.solve(1, 100);
        is('s', () -> x.state(0));
        is('d', () -> x.state(1));
        refusesNoEntry(() -> x.state(-1), () -> x.state(2));

        begin("11 cardOf");
        Scene.add(x, Scene.pile(2, 21), NO_CARDS, Scene.pile(22, 1));
        is(2, () -> x.cardOf(0, 0, 0));
        is(21, () -> x.cardOf(0, 0, 1));
        is(22, () -> x.cardOf(0, 2, 0));
        is(1, () -> x.cardOf(0, 2, 1));
        int[][] none = {{0, 2}, {1, 0}, {2, 2}, {3, 0}, {-1, 0}, {0, -1}, {0, Integer.MAX_VALUE}, {0, Integer.MIN_VALUE}, {5, 5}};
        for (int[] place : none) {
            refuses(NO_ELEMENT, () -> x.cardOf(0, place[0], place[1]));
        }
        refusesNoEntry(() -> x.cardOf(-1, 0, 0), () -> x.cardOf(1, 9, 9));
        x.solve(0, 1000);
        is(21, () -> x.cardOf(0, 0, 1));

        begin("12 keyOf");
        addOneTwo();
        refuses(NO_ELEMENT, () -> x.keyOf(0, 0));
        x.solve(0, 100);
        is(1, () -> x.keyOf(0, 0));
        is(9, () -> x.keyOf(0, 1));
        is(19, () -> x.keyOf(0, 2));
        refuses(NO_ELEMENT, () -> x.keyOf(0, 3));
        refuses(NO_ELEMENT, () -> x.keyOf(0, -1));
        refusesNoEntry(() -> x.keyOf(-1, 0), () -> x.keyOf(1, 0));
    }

    private static void firstMoves() {
        begin("16 moves");
        addTwoOne();
        is(2, () -> x.moves(0));
        addDead();
        is(0, () -> x.moves(1));
        // 1 to its stack, on 12 and to the empty pile; 12 to the empty pile alone
        Scene.add(x, Scene.pile(2, 1), Scene.pile(11, 12), NO_CARDS);
        is(4, () -> x.moves(2));
        // of the same suit and 1 higher, or of another suit and 2 higher, does not take a card
        Scene.add(x, Scene.pile(1), Scene.pile(3, 2));
        is(1, () -> x.moves(3));
        Scene.add(x, Scene.pile(2, 3, 1), Scene.pile(11, 12, 13));
        is(1, () -> x.moves(4));
        Scene.add(x, Scene.pile(1), NO_CARDS, NO_CARDS, NO_CARDS, NO_CARDS);
        is(5, () -> x.moves(5));
        x.solve(0, 100);
        is(2, () -> x.moves(0));
        refusesNoEntry(() -> x.moves(-1), () -> x.moves(6));
    }

    private static void likeDeals() {
        begin("17 areLike");
        Scene.add(x, Scene.pile(1, 12), Scene.pile(11, 2));
        Scene.add(x, Scene.pile(11, 2), Scene.pile(1, 12));
        Scene.add(x, Scene.pile(21, 12), Scene.pile(11, 22));
        Scene.add(x, Scene.pile(1, 12), Scene.pile(2, 11));
        Scene.add(x, Scene.pile(1, 12), Scene.pile(11, 2), NO_CARDS);
        Scene.add(x, Scene.pile(1, 12, 11), Scene.pile(2));
        Scene.add(x, Scene.pile(1, 2), Scene.pile(11, 12));
        Scene.add(x, Scene.pile(1, 12), Scene.pile(11, 2));
        boolean[] likeTheFirst = {true, true, true, false, false, false, false, true};
        for (int i = 0; i < likeTheFirst.length; i++) {
            int other = i;
            is(likeTheFirst[i], () -> x.areLike(0, other));
            is(likeTheFirst[i], () -> x.areLike(other, 0));
            is(true, () -> x.areLike(other, other));
        }
        refusesNoEntry(() -> x.areLike(-1, 0), () -> x.areLike(8, 0));
        refusesNoEntry(() -> x.areLike(0, -1), () -> x.areLike(0, 8));
        Scene.add(x, Scene.pile(1, 11, 21), NO_CARDS);
        Scene.add(x, Scene.pile(21, 1, 11), NO_CARDS);
        is(true, () -> x.areLike(8, 9));
        Scene.add(x, Scene.pile(1, 2, 3), NO_CARDS);
        is(false, () -> x.areLike(8, 10));
    }

    // ---- Promises 13 to 15

    private static void solving() {
        begin("13 solve");
        addOneTwo();
        for (int wrong : new int[] {0, -1, 20001, Integer.MAX_VALUE, Integer.MIN_VALUE}) {
            refusesAndKeeps(ARGUMENT, 0, () -> x.solve(0, wrong));
        }
        refusesNoEntry(() -> x.solve(-1, 1), () -> x.solve(1, 1));
        refuses(INDEX, () -> x.solve(1, 0));
        // [1 2][], then [1][2], then [][2] and [][2 1]; from [][2] 19 solves it
        is('o', () -> x.solve(0, 1));
        is('o', () -> x.state(0));
        is('o', () -> x.solve(0, 2));
        is('s', () -> x.solve(0, 3));
        is(3, () -> x.taken());
        is("1 9 19", () -> Scene.key(x, 0));
        is('o', () -> x.solve(0, 2));
        is('s', () -> x.state(0));
        is("1 9 19", () -> Scene.key(x, 0));
        is('s', () -> x.solve(0, 20000));
        // the first move in the order is the stack
        addTwoOne();
        is('s', () -> x.solve(1, 20000));
        is("9 9", () -> Scene.key(x, 1));
        is(2, () -> x.taken());
        addDead();
        is('d', () -> x.solve(2, 1));
        is('d', () -> x.state(2));
        deadBehindMoves();
        shorterKeyFromSolver();
        largeDeals();
        takenUp();
        reached();
    }

    private static void deadBehindMoves() {
        // 1 goes to its stack, then 12 on 3 and back, and nothing else can be moved
        int dead = Scene.add(x, Scene.pile(12, 1), Scene.pile(11, 2, 13, 3));
        is(1, () -> x.moves(dead));
        is('o', () -> x.solve(dead, 1));
        is('o', () -> x.solve(dead, 2));
        is('o', () -> x.state(dead));
        is('d', () -> x.solve(dead, 3));
        is(3, () -> x.taken());
        is('d', () -> x.state(dead));
        is('o', () -> x.solve(dead, 2));
        is('d', () -> x.state(dead));
        is(2, () -> x.taken());
        is(3, () -> x.reach(dead, 3));
        refuses(UNSUPPORTED, () -> x.reach(dead, 2));
    }

    private static void shorterKeyFromSolver() {
        begin("13 solve, a better key than that of a try");
        x.player();
        addTwoOne();
        x.lend(0, 0);
        is('b', () -> Scene.attempt(x, 0, 0, 1, 19, 9));
        is("1 19 9", () -> Scene.key(x, 0));
        is('o', () -> x.solve(0, 1));
        is('s', () -> x.state(0));
        is("1 19 9", () -> Scene.key(x, 0));
        is('s', () -> x.solve(0, 10));
        is("9 9", () -> Scene.key(x, 0));
        is(30, () -> x.points(0));
    }

    private static void largeDeals() {
        begin("13 solve, 12 cards");
        Scene.add(x, Scene.pile(24, 1, 4), Scene.pile(14, 2, 3), Scene.pile(13, 12, 23, 22), Scene.pile(21, 11), NO_CARDS);
        is('o', () -> x.solve(0, 20000));
        is(20000, () -> x.taken());
        refuses(UNSUPPORTED, () -> x.reach(0, 20000));
        Scene.add(x, Scene.pile(4, 3, 2, 1), Scene.pile(14, 13, 12, 11), Scene.pile(24, 23, 22, 21));
        is('s', () -> x.solve(1, 20000));
        is("9 9 9 9 19 19 19 19 29 29 29 29", () -> Scene.key(x, 1));
        // a long way: found by hand of the solver, checked by isSound
        Scene.add(x, NO_CARDS, Scene.pile(1, 13, 24, 21, 4, 22, 14), NO_CARDS, Scene.pile(11, 23, 3, 2, 12));
        is('s', () -> x.solve(2, 20000));
        is(35, () -> x.of(2, 'k'));
        is(true, () -> x.isSound());
    }

    private static void takenUp() {
        begin("14 taken");
        is(0, () -> x.taken());
        addTwoOne();
        is(0, () -> x.taken());
        x.solve(0, 1);
        is(1, () -> x.taken());
        x.solve(0, 100);
        is(2, () -> x.taken());
        refuses(ARGUMENT, () -> x.solve(0, 0));
        is(2, () -> x.taken());
        addDead();
        x.solve(1, 50);
        is(1, () -> x.taken());
    }

    private static void reached() {
        begin("15 reach");
        addTwoOne();
        // [2 1][], [2][], [2][1], [][] and [][2]
        is(5, () -> x.reach(0, 5));
        is(5, () -> x.reach(0, 20000));
        refusesAndKeeps(UNSUPPORTED, 0, () -> x.reach(0, 4));
        refusesAndKeeps(UNSUPPORTED, 0, () -> x.reach(0, 1));
        is('o', () -> x.state(0));
        Scene.add(x, Scene.pile(1), NO_CARDS);
        // [1][] [][1] [][]
        is(3, () -> x.reach(1, 3));
        refuses(UNSUPPORTED, () -> x.reach(1, 2));
        addDead();
        is(1, () -> x.reach(2, 1));
        for (int wrong : new int[] {0, -1, 20001, Integer.MAX_VALUE, Integer.MIN_VALUE}) {
            refuses(ARGUMENT, () -> x.reach(0, wrong));
        }
        refusesNoEntry(() -> x.reach(-1, 1), () -> x.reach(3, 1));
        refuses(INDEX, () -> x.reach(3, 0));
        is("ooo", () -> "" + x.state(0) + x.state(1) + x.state(2));
    }

    // ---- entries that meet

    private static void meeting() {
        begin("13 solve, entries meet");
        Scene.players(x, 4);
        addOneTwo();
        addDead();
        Scene.add(x, Scene.pile(21, 22), NO_CARDS);
        addTwoOne();
        x.copies(0, 1);
        x.lend(0, 0);
        x.lend(1, 0);
        x.lend(2, 2);
        x.await(3, 0);
        x.await(2, 0);
        x.await(3, 2);
        x.await(1, 2);
        is('s', () -> x.solve(2, 100));
        is(4, () -> x.entries());
        is('s', () -> x.solve(0, 100));
        is(3, () -> x.entries());
        is("s0:3***", () -> Scene.label(x, 0));
        is("o1:-", () -> Scene.label(x, 1));
        is("o2:-", () -> Scene.label(x, 2));
        is(2, () -> x.cardOf(2, 0, 0));
        is(1, () -> x.cardOf(0, 0, 0));
        is(3, () -> x.of(0, 'c'));
        // 3 and 2 waited for the lower one, 3 and 1 for the other: 3 waits once, 1 waits on
        is(3, () -> x.of(0, 'w'));
        is(3, () -> x.firstWaiting(0));
        is("20 20 20 20", () -> x.points(0) + " " + x.points(1) + " " + x.points(2) + " " + x.points(3));
        is(12, () -> x.giveBack(2, 0));
        is(2, () -> x.of(0, 'w'));
        is(1, () -> x.loans(3));
        is(true, () -> x.isSound());

        meetingByTry();
        meetingServes();
        meetingQueues();
        noMeeting();
        twoCopiesOfOne();
    }

    private static void meetingByTry() {
        begin("26 attempt, entries meet");
        Scene.players(x, 2);
        addTwoOne();
        addTwoOne();
        x.copies(1, 3);
        x.lend(0, 1);
        x.lend(1, 0);
        x.solve(0, 10);
        is('b', () -> Scene.attempt(x, 0, 1, 9, 9));
        is(30, () -> x.points(0));
        is(1, () -> x.entries());
        is(5, () -> x.of(0, 'c'));
        is(1, () -> x.of(0, 'l'));
        is(1, () -> x.loans(1));
        is(0, () -> x.loans(0));
        is(8, () -> x.copies(0, 3));
        addTwoOne();
        x.copies(1, 3);
        is('s', () -> x.solve(1, 10));
        is(12, () -> x.of(0, 'c'));
        refuses(STATE, () -> x.copies(0, 1));

        begin("26 attempt, the lower one gets the key of the higher");
        x.player();
        addTwoOne();
        addDead();
        addTwoOne();
        x.solve(2, 10);
        x.lend(0, 0);
        is('b', () -> Scene.attempt(x, 0, 0, 1, 19, 9));
        is(3, () -> x.entries());
        x.lend(0, 0);
        is('b', () -> Scene.attempt(x, 0, 0, 9, 9));
        is(2, () -> x.entries());
        is("s0:2", () -> Scene.label(x, 0));
        is(2, () -> x.of(0, 'c'));
        is("0 1", () -> Scene.list(x));
        is(20 + 10 + 10 + 2, () -> x.points(0));
    }

    private static void meetingServes() {
        begin("24 await, served as entries meet");
        Scene.players(x, 3);
        addTwoOne();
        addTwoOne();
        x.lend(0, 0);
        x.await(1, 0);
        x.await(2, 0);
        x.solve(0, 10);
        is(1, () -> x.of(0, 'l'));
        is('s', () -> x.solve(1, 10));
        is(1, () -> x.entries());
        is(2, () -> x.of(0, 'l'));
        is(1, () -> x.of(0, 'w'));
        is(1, () -> x.loans(1));
        is(7, () -> x.due(1, 0));
        is(2, () -> x.firstWaiting(0));
    }

    private static void meetingQueues() {
        begin("24 await, those who wait for entries that meet");
        Scene.players(x, 5);
        addTwoOne();
        addTwoOne();
        x.lend(0, 0);
        x.lend(1, 1);
        x.await(4, 0);
        x.await(0, 1);
        x.await(4, 1);
        x.await(3, 1);
        x.solve(1, 10);
        x.solve(0, 10);
        // the queue is 4, 0 and 3
        is(3, () -> x.of(0, 'w'));
        is(4, () -> x.firstWaiting(0));
        is(2, () -> x.leave(4, 0));
        is(3, () -> x.firstWaiting(0));
        x.lend(3, addTwoOne());
        is('x', () -> x.attempt(3, 1));
        is(3, () -> x.firstWaiting(0));
        // who gives back pays first, and then has less than the other one: 12 against 15
        is(12, () -> x.giveBack(0, 0));
        is(1, () -> x.loans(3));
        is(0, () -> x.loans(0));
        is(0, () -> x.firstWaiting(0));
        is('e', () -> Scene.attempt(x, 3, 0, 9, 9));
        is(1, () -> x.loans(0));
        is(0, () -> x.of(0, 'w'));
    }

    private static void noMeeting() {
        begin("13 solve, no meeting");
        x.player();
        // like deals of other keys stay two
        addTwoOne();
        addTwoOne();
        x.lend(0, 0);
        Scene.attempt(x, 0, 0, 1, 19, 9);
        x.solve(1, 10);
        is(2, () -> x.entries());
        is("1 0", () -> Scene.list(x));
        // deals of the same key that are not like stay two
        Scene.add(x, Scene.pile(1, 11), NO_CARDS);
        x.solve(2, 10);
        is("9 9", () -> Scene.key(x, 2));
        is(3, () -> x.entries());
        is(true, () -> x.isSound());
        is('s', () -> x.solve(0, 10));
        is(2, () -> x.entries());
        is("9 9", () -> Scene.key(x, 1));
        is(11, () -> x.cardOf(1, 0, 1));
    }

    private static void twoCopiesOfOne() {
        begin("26 attempt, two copies of an entry");
        Scene.players(x, 2);
        addTwoOne();
        addTwoOne();
        x.lend(0, 1);
        x.days(3);
        x.lend(0, 0);
        x.solve(0, 10);
        x.solve(1, 10);
        is(1, () -> x.entries());
        is(2, () -> x.loans(0));
        is(2, () -> x.of(0, 'l'));
        is(4, () -> x.due(0, 0));
        x.await(1, 0);
        is(12, () -> x.giveBack(0, 0));
        is(7, () -> x.due(0, 0));
        is(7, () -> x.due(1, 0));
        is(13, () -> x.days(10));
        is(9, () -> x.points(0));
        is(17, () -> x.points(1));

        begin("29 days, two copies cost twice");
        x.player();
        addTwoOne();
        addTwoOne();
        x.lend(0, 0);
        x.lend(0, 1);
        x.solve(0, 10);
        x.solve(1, 10);
        x.days(9);
        is(16, () -> x.points(0));
        is('x', () -> x.attempt(0, 0));
        is(1, () -> x.loans(0));
        is(-2, () -> x.due(0, 0));
    }

    // ---- Promises 18, 19 and 33

    private static void lists() {
        begin("18 find");
        refuses(NO_ELEMENT, () -> x.find());
        addOneTwo();
        addTwoOne();
        Scene.add(x, Scene.pile(1, 11), NO_CARDS);
        refuses(NO_ELEMENT, () -> x.find());
        Scene.moves(x, 9, 9);
        refuses(NO_ELEMENT, () -> x.find());
        x.solve(2, 100);
        is(2, () -> x.find());
        x.solve(1, 100);
        is(1, () -> x.find());
        is(1, () -> x.find());
        x.move(1, 9);
        refuses(NO_ELEMENT, () -> x.find());
        is(3, () -> x.wipe());
        x.solve(0, 100);
        Scene.moves(x, 1, 9, 19);
        is(0, () -> x.find());
        x.wipe();
        x.move(0, 1);
        refuses(NO_ELEMENT, () -> x.find());

        begin("19 listed");
        refuses(NO_ELEMENT, () -> x.listed(0));
        addDead();
        addOneTwo();
        addTwoOne();
        Scene.add(x, Scene.pile(1, 11), NO_CARDS);
        Scene.add(x, NO_CARDS, Scene.pile(1, 11));
        addDead();
        is("0 1 2 3 4 5", () -> Scene.list(x));
        x.solve(0, 10);
        is("1 2 3 4 5 0", () -> Scene.list(x));
        x.solve(1, 10);
        is("1 2 3 4 5 0", () -> Scene.list(x));
        x.solve(4, 10);
        is("4 1 2 3 5 0", () -> Scene.list(x));
        x.solve(3, 10);
        is("3 4 1 2 5 0", () -> Scene.list(x));
        x.solve(2, 10);
        is("2 3 4 1 5 0", () -> Scene.list(x));
        refuses(NO_ELEMENT, () -> x.listed(6));
        refuses(NO_ELEMENT, () -> x.listed(-1));

        labels();
    }

    private static void labels() {
        begin("33 label");
        Scene.players(x, 3);
        addTwoOne();
        addDead();
        is("o0:-", () -> Scene.label(x, 0));
        x.solve(0, 10);
        x.solve(1, 10);
        is("s0:2", () -> Scene.label(x, 0));
        is("d1:-", () -> Scene.label(x, 1));
        x.lend(0, 1);
        x.copies(1, 3);
        is("d1:-*", () -> Scene.label(x, 1));
        x.lend(1, 1);
        x.lend(2, 1);
        is("d1:-***", () -> Scene.label(x, 1));
        refuses(NO_ELEMENT, () -> x.label(1, 7));
        refuses(NO_ELEMENT, () -> x.label(1, -1));
        refuses(NO_ELEMENT, () -> x.label(0, 4));
        refusesNoEntry(() -> x.label(-1, 0), () -> x.label(2, 0));
        for (int i = 2; i < 11; i++) {
            addDead();
        }
        is("o10:-", () -> Scene.label(x, 10));
        Scene.add(x, Scene.pile(1), NO_CARDS);
        is("o11:-", () -> Scene.label(x, 11));
    }

    // ---- Promises 20 to 25 and 27 to 30

    private static void playersAndLoans() {
        begin("20 player");
        for (int i = 0; i < 6; i++) {
            int number = i;
            is(number, () -> x.player());
        }
        refusesAndKeeps(STATE, 6, () -> x.player());

        begin("21 points");
        x.player();
        is(20, () -> x.points(0));
        refuses(INDEX, () -> x.points(1));
        refuses(INDEX, () -> x.points(-1));
        addTwoOne();
        for (int due = 12; due >= -4; due -= 8) {
            int points = due;
            x.lend(0, 0);
            is(points, () -> x.giveBack(0, 0));
            is(points, () -> x.points(0));
        }

        begin("22 loans");
        x.player();
        is(0, () -> x.loans(0));
        for (int i = 0; i < 3; i++) {
            int many = i + 1;
            addTwoOne();
            x.lend(0, i);
            is(many, () -> x.loans(0));
        }
        x.giveBack(0, 1);
        is(2, () -> x.loans(0));
        refuses(INDEX, () -> x.loans(1));
        refuses(INDEX, () -> x.loans(-1));

        lending();
        lendToOneWhoWaits();
        givingBack();
        dueDays();
    }

    private static void lending() {
        begin("23 lend");
        Scene.players(x, 3);
        for (int i = 0; i < 4; i++) {
            addTwoOne();
        }
        refuses(INDEX, () -> x.lend(3, 0));
        refuses(INDEX, () -> x.lend(-1, 0));
        refuses(INDEX, () -> x.lend(0, 4));
        refuses(INDEX, () -> x.lend(0, -1));
        x.copies(0, 2);
        is(2, () -> x.lend(0, 0));
        refusesAndKeeps(UNSUPPORTED, 3, () -> x.lend(0, 0));
        is(1, () -> x.lend(1, 0));
        is(0, () -> x.lend(0, 1));
        refuses(NO_ELEMENT, () -> x.lend(0, 1));
        refusesAndKeeps(NO_ELEMENT, 3, () -> x.lend(1, 1));
        is(0, () -> x.lend(0, 2));
        refusesAndKeeps(UNSUPPORTED, 3, () -> x.lend(0, 3));
        is(12, () -> x.giveBack(0, 2));
        is(0, () -> x.lend(0, 3));

        begin("23 lend, points of 0 or more");
        x.player();
        addTwoOne();
        for (int i = 0; i < 4; i++) {
            is(0, () -> x.lend(0, 0));
            x.attempt(0, 0);
        }
        is(0, () -> x.points(0));
        is(0, () -> x.lend(0, 0));
        is(8, () -> x.days(8));
        is(-1, () -> x.points(0));
        is(-6, () -> Checks.answer(() -> {
            x.attempt(0, 0);
            return x.points(0);
        }));
        refusesAndKeeps(UNSUPPORTED, 1, () -> x.lend(0, 0));

        begin("23 lend, to one who waits");
        Scene.players(x, 2);
        addTwoOne();
        x.lend(0, 0);
        x.await(1, 0);
        refuses(NO_ELEMENT, () -> x.lend(1, 0));
        makePoor(1);
        x.giveBack(0, 0);
        is(1, () -> x.of(0, 'w'));
        is(0, () -> x.of(0, 'l'));
        refuses(UNSUPPORTED, () -> x.lend(1, 0));
        is(0, () -> x.lend(0, 0));
    }

    private static void lendToOneWhoWaits() {
        begin("23 lend, to one who waits and could be lent it else");
        Scene.players(x, 2);
        for (int i = 0; i < 4; i++) {
            addTwoOne();
        }
        x.lend(0, 0);
        x.lend(0, 1);
        x.lend(0, 2);
        x.lend(1, 3);
        x.await(0, 3);
        x.giveBack(1, 3);
        is(12, () -> x.giveBack(0, 0));
        // a copy of the entry 0 came back, none of the entry 3
        is(1, () -> x.of(3, 'w'));
        is(0, () -> x.firstWaiting(3));
        refusesAndKeeps(UNSUPPORTED, 2, () -> x.lend(0, 3));
        is(2, () -> x.copies(3, 1));
        is(0, () -> x.of(3, 'w'));
        is(1, () -> x.of(3, 'l'));
        is(7, () -> x.due(0, 3));
    }

    /** Takes a player's points below 0, by copies of a new entry that are given back. */
    private static void makePoor(int player) {
        int entry = addTwoOne();
        for (int i = 0; i < 3; i++) {
            x.lend(player, entry);
            x.giveBack(player, entry);
        }
    }

    private static void givingBack() {
        begin("27 giveBack");
        Scene.players(x, 2);
        addTwoOne();
        addTwoOne();
        x.lend(0, 0);
        is(12, () -> x.giveBack(0, 0));
        is(0, () -> x.loans(0));
        is(0, () -> x.of(0, 'l'));
        refusesAndKeeps(NO_ELEMENT, 2, () -> x.giveBack(0, 0));
        x.lend(1, 1);
        refuses(NO_ELEMENT, () -> x.giveBack(0, 1));
        refuses(NO_ELEMENT, () -> x.giveBack(1, 0));
        refuses(INDEX, () -> x.giveBack(2, 0));
        refuses(INDEX, () -> x.giveBack(-1, 0));
        refuses(INDEX, () -> x.giveBack(0, 2));
        refuses(INDEX, () -> x.giveBack(0, -1));
        Scene.moves(x, 9, 9);
        x.giveBack(1, 1);
        is(2, () -> x.wipe());
        is('o', () -> x.state(1));
        x.lend(0, 0);
        is(4, () -> x.giveBack(0, 0));
        x.lend(0, 0);
        is(-4, () -> x.giveBack(0, 0));
    }

    private static void dueDays() {
        begin("28 due");
        Scene.players(x, 2);
        addTwoOne();
        addTwoOne();
        x.lend(0, 0);
        is(7, () -> x.due(0, 0));
        x.days(7);
        is(0, () -> x.due(0, 0));
        x.days(1);
        is(-1, () -> x.due(0, 0));
        x.lend(1, 1);
        is(7, () -> x.due(1, 1));
        refuses(NO_ELEMENT, () -> x.due(1, 0));
        refuses(NO_ELEMENT, () -> x.due(0, 1));
        refuses(INDEX, () -> x.due(2, 0));
        refuses(INDEX, () -> x.due(-1, 0));
        refuses(INDEX, () -> x.due(0, 2));
        refuses(INDEX, () -> x.due(0, -1));

        begin("29 days");
        Scene.players(x, 2);
        addTwoOne();
        addTwoOne();
        for (int wrong : new int[] {0, 31, -1, Integer.MAX_VALUE, Integer.MIN_VALUE}) {
            refusesAndKeeps(ARGUMENT, 2, () -> x.days(wrong));
        }
        x.lend(0, 0);
        is(1, () -> x.days(1));
        x.lend(0, 1);
        is(7, () -> x.days(6));
        is(20, () -> x.points(0));
        is(8, () -> x.days(1));
        is(19, () -> x.points(0));
        is(10, () -> x.days(2));
        is(15, () -> x.points(0));
        is(40, () -> x.days(30));
        is(-45, () -> x.points(0));
        is(20, () -> x.points(1));
    }

    private static void waiting() {
        begin("24 await");
        Scene.players(x, 4);
        addTwoOne();
        refuses(UNSUPPORTED, () -> x.await(0, 0));
        x.lend(0, 0);
        refusesAndKeeps(UNSUPPORTED, 4, () -> x.await(0, 0));
        is(1, () -> x.await(1, 0));
        refusesAndKeeps(UNSUPPORTED, 4, () -> x.await(1, 0));
        is(2, () -> x.await(2, 0));
        refuses(INDEX, () -> x.await(4, 0));
        refuses(INDEX, () -> x.await(-1, 0));
        refuses(INDEX, () -> x.await(0, 1));
        refuses(INDEX, () -> x.await(0, -1));
        // added copies go to those who wait, and the rest is there
        is(4, () -> x.copies(0, 3));
        is(3, () -> x.of(0, 'l'));
        is(0, () -> x.of(0, 'w'));
        refuses(UNSUPPORTED, () -> x.await(3, 0));

        begin("24 await, with 3 loans or without points");
        Scene.players(x, 2);
        for (int i = 0; i < 4; i++) {
            addTwoOne();
        }
        x.lend(0, 0);
        x.lend(0, 1);
        x.lend(0, 2);
        x.lend(1, 3);
        is(1, () -> x.await(0, 3));
        refuses(NO_ELEMENT, () -> x.firstWaiting(3));
        x.giveBack(1, 3);
        is(3, () -> x.loans(0));
        is(1, () -> x.of(3, 'w'));
        refuses(UNSUPPORTED, () -> x.await(1, 3));
        is(2, () -> x.copies(3, 1));
        is(1, () -> x.of(3, 'w'));

        leaving();
        firstOfThoseWhoWait();
    }

    private static void leaving() {
        begin("25 leave");
        Scene.players(x, 4);
        addTwoOne();
        x.lend(0, 0);
        x.await(1, 0);
        x.await(2, 0);
        x.await(3, 0);
        is(2, () -> x.leave(2, 0));
        refusesAndKeeps(NO_ELEMENT, 4, () -> x.leave(2, 0));
        refuses(NO_ELEMENT, () -> x.leave(0, 0));
        is(1, () -> x.firstWaiting(0));
        is(1, () -> x.leave(1, 0));
        is(3, () -> x.firstWaiting(0));
        is(2, () -> x.await(1, 0));
        is(3, () -> x.firstWaiting(0));
        refuses(INDEX, () -> x.leave(4, 0));
        refuses(INDEX, () -> x.leave(-1, 0));
        refuses(INDEX, () -> x.leave(1, 1));
        refuses(INDEX, () -> x.leave(1, -1));
        is("20 20", () -> x.points(1) + " " + x.points(2));
    }

    private static void firstOfThoseWhoWait() {
        begin("30 firstWaiting");
        Scene.players(x, 5);
        addTwoOne();
        addTwoOne();
        x.lend(0, 0);
        refuses(NO_ELEMENT, () -> x.firstWaiting(0));
        refuses(NO_ELEMENT, () -> x.firstWaiting(1));
        refusesNoEntry(() -> x.firstWaiting(-1), () -> x.firstWaiting(2));
        x.await(3, 0);
        x.await(2, 0);
        x.await(1, 0);
        is(3, () -> x.firstWaiting(0));
        x.lend(3, 1);
        x.giveBack(3, 1);
        is(2, () -> x.firstWaiting(0));
        x.lend(1, 1);
        is('b', () -> Scene.attempt(x, 1, 1, 9, 9));
        is(1, () -> x.firstWaiting(0));
        refuses(NO_ELEMENT, () -> x.firstWaiting(1));
        x.giveBack(0, 0);
        is(7, () -> x.due(1, 0));
        is(2, () -> x.firstWaiting(0));
        is(20, () -> x.giveBack(1, 0) - 2);
        is(7, () -> x.due(2, 0));
        is(12, () -> x.giveBack(2, 0));
        is(7, () -> x.due(3, 0));
        is(0, () -> x.of(0, 'w'));

        begin("30 firstWaiting, not with points below 0");
        Scene.players(x, 3);
        addTwoOne();
        x.lend(0, 0);
        x.await(1, 0);
        makePoor(1);
        refuses(NO_ELEMENT, () -> x.firstWaiting(0));
        x.await(2, 0);
        is(2, () -> x.firstWaiting(0));
        x.giveBack(0, 0);
        is(1, () -> x.loans(2));
        is(1, () -> x.of(0, 'w'));
    }

    // ---- Promises 26, 31 and 32

    private static void trying() {
        begin("26 attempt");
        Scene.players(x, 2);
        addTwoOne();
        Scene.moves(x, 9, 9);
        refuses(INDEX, () -> x.attempt(2, 0));
        refuses(INDEX, () -> x.attempt(-1, 0));
        refuses(INDEX, () -> x.attempt(0, 1));
        refuses(INDEX, () -> x.attempt(0, -1));
        refusesAndKeeps(NO_ELEMENT, 2, () -> x.attempt(0, 0));
        is(2, () -> x.wipe());
        x.card(1);
        // a first solution: 10
        x.lend(0, 0);
        is('b', () -> Scene.attempt(x, 0, 0, 9, 1, 19));
        is(30, () -> x.points(0));
        is('s', () -> x.state(0));
        is(0, () -> x.loans(0));
        is(1, () -> x.wipe());
        // the same one, and a worse one: 2
        again('e', 32, 9, 1, 19);
        again('e', 34, 9, 1, 10, 9);
        is("9 1 19", () -> Scene.key(x, 0));
        // as short, with a lesser move: 10
        again('b', 44, 1, 19, 9);
        is("1 19 9", () -> Scene.key(x, 0));
        again('e', 46, 9, 1, 19);
        // shorter by one: 12
        again('b', 58, 9, 9);
        is("9 9", () -> Scene.key(x, 0));
        // no solution: 5 less
        again('x', 53);
        again('x', 48, 9);
        again('x', 43, 9, 9, 9);
        again('x', 38, 19, 9, 9);
        is("9 9", () -> Scene.key(x, 0));

        shorterByFar();
        tryOfADeadDeal();
        served();
        reasons();
    }

    private static void again(char due, int points, int... moves) {
        is(0, () -> x.lend(0, 0));
        is(due, () -> Scene.attempt(x, 0, 0, moves));
        is(points, () -> x.points(0));
        is(0, () -> x.loans(0));
        is(0, () -> x.wipe());
    }

    private static void shorterByFar() {
        begin("26 attempt, of 40 moves");
        x.player();
        addTwoOne();
        x.lend(0, 0);
        x.move(0, 9);
        for (int i = 0; i < 19; i++) {
            Scene.moves(x, 1, 10);
        }
        is('b', () -> Scene.attempt(x, 0, 0, 9));
        is(40, () -> x.of(0, 'k'));
        is("s0:40", () -> Scene.label(x, 0));
        is(9, () -> x.keyOf(0, 39));
        is(10, () -> x.keyOf(0, 38));
        refuses(NO_ELEMENT, () -> x.keyOf(0, 40));
        x.lend(0, 0);
        is('b', () -> Scene.attempt(x, 0, 0, 9, 9));
        is(20 + 10 + 10 + 2 * 38, () -> x.points(0));
    }

    private static void tryOfADeadDeal() {
        begin("26 attempt, of a dead deal");
        x.player();
        addDead();
        x.solve(0, 10);
        x.lend(0, 0);
        is('x', () -> Scene.attempt(x, 0, 0, 9));
        is("t0 m9 s2", () -> Scene.why(x));
        is('d', () -> x.state(0));
        is(15, () -> x.points(0));
    }

    private static void served() {
        begin("26 attempt, serves behind all that it brings");
        Scene.players(x, 3);
        addTwoOne();
        x.lend(0, 0);
        x.await(1, 0);
        x.await(2, 0);
        is('x', () -> Scene.attempt(x, 0, 0));
        is(0, () -> x.loans(0));
        is(1, () -> x.loans(1));
        is(1, () -> x.of(0, 'w'));
        is(2, () -> x.firstWaiting(0));
        is('b', () -> Scene.attempt(x, 1, 0, 9, 9));
        is(1, () -> x.loans(2));
        is(0, () -> x.of(0, 'w'));
        refuses(NO_ELEMENT, () -> x.lend(0, 0));
    }

    private static void reasons() {
        begin("31 why");
        x.player();
        addTwoOne();
        Scene.add(x, Scene.pile(2, 1), Scene.pile(11, 12), NO_CARDS);
        refuses(NO_ELEMENT, () -> x.why(0));
        refuses(NO_ELEMENT, () -> x.whyNumber(0));
        fails(0, "t0");
        fails(0, "t1", 9);
        fails(0, "t3", 9, 1, 10);
        fails(0, "t1 m10 p0", 1, 10, 9);
        fails(0, "t2 m9 e0", 9, 9, 9);
        fails(1, "t0 m13 p3", 13);
        fails(1, "t0 m39 e3", 39);
        fails(1, "t0 m40 e4", 40, 9);
        fails(1, "t0 m20 e2", 20);
        fails(1, "t0 m10 p0", 10);
        fails(1, "t0 m19 s12", 19);
        fails(1, "t1 m1 p1", 9, 1, 9);
        fails(1, "t2 m19 s12", 1, 19, 19, 9);
        is('t', () -> x.why(0));
        is('m', () -> x.why(1));
        is('s', () -> x.why(2));
        promise = "32 whyNumber";
        is(2, () -> x.whyNumber(0));
        is(19, () -> x.whyNumber(1));
        is(12, () -> x.whyNumber(2));
        for (int none : new int[] {3, -1, Integer.MAX_VALUE, Integer.MIN_VALUE}) {
            refuses(NO_ELEMENT, () -> x.why(none));
            refuses(NO_ELEMENT, () -> x.whyNumber(none));
        }
        // a try that is a solution leaves the last reason as it is
        keepReasonsOfTheLast();
    }

    private static void keepReasonsOfTheLast() {
        Scene.players(x, 1);
        x.lend(1, 0);
        is('b', () -> Scene.attempt(x, 1, 0, 9, 9));
        is("t2 m19 s12", () -> Scene.why(x));
        refuses(NO_ELEMENT, () -> x.attempt(1, 0));
        is("t2 m19 s12", () -> Scene.why(x));
        x.lend(1, 0);
        is('x', () -> Scene.attempt(x, 1, 0, 9));
        is("t1", () -> Scene.why(x));
        refuses(NO_ELEMENT, () -> x.why(1));
        refuses(NO_ELEMENT, () -> x.whyNumber(1));
    }

    /** A player who can pay for it tries an entry in vain. */
    private static void fails(int entry, String why, int... moves) {
        if (x.points(0) < 0) {
            Patiencearchive old = x;
            x = new Patiencearchive();
            x.player();
            for (int i = 0; i < old.entries(); i++) {
                copyEntry(old, i);
            }
        }
        x.lend(0, entry);
        is('x', () -> Scene.attempt(x, 0, entry, moves));
        is(why, () -> Scene.why(x));
    }

    private static void copyEntry(Patiencearchive old, int entry) {
        for (int pile = 0; pile < old.of(entry, 'p'); pile++) {
            if (pile > 0) {
                x.pile();
            }
            for (int index = 0; index < 12; index++) {
                int nowPile = pile;
                int nowIndex = index;
                Object card = Checks.answer(() -> old.cardOf(entry, nowPile, nowIndex));
                if (card instanceof Integer) {
                    x.card((Integer) card);
                }
            }
        }
        x.add();
    }

    // ---- Promises 34 to 38

    private static void sums() {
        begin("34 keyMoves");
        is(0, () -> x.keyMoves());
        addTwoOne();
        addOneTwo();
        addDead();
        is(0, () -> x.keyMoves());
        x.solve(0, 10);
        is(2, () -> x.keyMoves());
        x.solve(1, 10);
        x.solve(2, 10);
        is(5, () -> x.keyMoves());

        begin("35 checksum");
        is(7L, () -> x.checksum());
        addTwoOne();
        is((7L * 31 + 1) * 31 + 'o', () -> x.checksum());
        x.copies(0, 2);
        x.solve(0, 10);
        long entry = (((7L * 31 + 3) * 31 + 's') * 31 + 9) * 31 + 9;
        is(entry, () -> x.checksum());
        Scene.players(x, 2);
        x.lend(1, 0);
        x.giveBack(1, 0);
        is((entry * 31 + 20) * 31 + 12, () -> x.checksum());
        addDead();
        x.solve(1, 1);
        is((((entry * 31 + 1) * 31 + 'd') * 31 + 20) * 31 + 12, () -> x.checksum());

        shares();

        begin("38 isSound");
        is(true, () -> x.isSound());
        x.player();
        addTwoOne();
        addOneTwo();
        addDead();
        x.lend(0, 0);
        is(true, () -> x.isSound());
        for (int i = 0; i < 3; i++) {
            x.solve(i, 100);
            is(true, () -> x.isSound());
        }
    }

    private static void shares() {
        begin("36 solvedShare");
        refuses(ArithmeticException.class, () -> x.solvedShare());
        addTwoOne();
        is(0.0f, () -> x.solvedShare());
        addOneTwo();
        addDead();
        x.solve(2, 10);
        is(0.0f, () -> x.solvedShare());
        x.solve(0, 10);
        is(1.0f / 3.0f, () -> x.solvedShare());
        x.solve(1, 10);
        is(2.0f / 3.0f, () -> x.solvedShare());

        begin("37 meanPoints");
        refuses(ArithmeticException.class, () -> x.meanPoints());
        Scene.players(x, 3);
        is(20.0, () -> x.meanPoints());
        addTwoOne();
        x.lend(0, 0);
        x.giveBack(0, 0);
        is(52.0 / 3.0, () -> x.meanPoints());
        x.lend(1, 0);
        x.days(30);
        x.days(30);
        is((12.0 - 33.0 + 20.0) / 3.0, () -> x.meanPoints());
    }
}
