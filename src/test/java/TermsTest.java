/** The words under 'Terms', sentence by sentence; none of them is left without a run of calls. */
public final class TermsTest {
    private final Sentences doc = new Sentences();

    private TermsTest() {
    }

    public static void main(String[] args) {
        TermsTest test = new TermsTest();
        test.doc.section("Terms");
        test.deals();
        test.movesOfDeals();
        test.likeDeals();
        test.solver();
        test.endsOfTheSolver();
        test.archive();
        test.betterKeys();
        test.meeting();
        test.waitingAsEntriesMeet();
        test.list();
        test.whoIsLent();
        test.tries();
        test.waiting();
        test.serving();
        test.reasons();
        test.refusedCalls();
        test.orderOfExceptions();
        test.doc.whole("Terms");
        test.doc.end("TermsTest");
    }

    // ---- Deals

    private void deals() {
        doc.says("Deals. A deal has 2 to 5 piles, numbered from 0",
                "add ! UnsupportedOperation; card 1; add ! UnsupportedOperation; pile = 1; add = 0; of 0 p = 2; cards 0 = 1 /",
                "card 1; card 2; card 3; add ! UnsupportedOperation",
                "deal / 1 = 0; of 0 p = 2; cardOf 0 1 0 = 1; cardOf 0 2 0 ! NoSuchElement; cardOf 0 -1 0 ! NoSuchElement",
                "deal 1 / / / / = 0; of 0 p = 5; cards 0 = 1 / / / /",
                "4x pile; pile ! IllegalState; card 1 = 1; pile ! IllegalState; add = 0; of 0 p = 5; cardOf 0 4 0 = 1");
        doc.says("and cards of 1 to 3 suits, 0 to 2",
                "pile; add ! UnsupportedOperation; 3x pile; add ! UnsupportedOperation",
                "deal 1 / = 0; of 0 s = 1; deal 11 / = 1; of 1 s = 1; deal 21 / = 2; of 2 s = 1; cards 2 = 21 /",
                "deal 1 / 11 = 0; deal 1 / 21 = 1; deal 21 / 11 = 2; of 0 s = 2; of 1 s = 2; of 2 s = 2",
                "deal 21 / 11 1 = 0; of 0 s = 3",
                "card 31 ! IllegalArgument; card -1 ! IllegalArgument; card -9 ! IllegalArgument; card -11 ! IllegalArgument");
        doc.says("with 1 to 4 ranks from 1 on",
                "deal 1 / = 0; of 0 r = 1; deal 1 / 2 = 1; of 1 r = 2; deal 2 3 1 / = 2; of 2 r = 3; deal 4 3 / 2 1 = 3; of 3 r = 4",
                "card 5 ! IllegalArgument; card 15 ! IllegalArgument; card 25 ! IllegalArgument",
                "card 0 ! IllegalArgument; card 10 ! IllegalArgument; card 20 ! IllegalArgument",
                "type 2 /; add ! UnsupportedOperation; card 1; add = 0; of 0 r = 2",
                "type 1 3 /; add ! UnsupportedOperation; card 2; add = 0",
                "type 2 3 4 /; add ! UnsupportedOperation; card 1; add = 0",
                "type 4 / 14 24; add ! UnsupportedOperation");
        doc.says("each card of all its suits and ranks just once",
                "type 1 / 1; add ! UnsupportedOperation",
                "type 1 1 /; add ! UnsupportedOperation",
                "type 1 2 / 11; add ! UnsupportedOperation; card 12; add = 0",
                "type 1 / 11 12; add ! UnsupportedOperation; card 2; add = 0",
                "type 1 2 / 11 13; add ! UnsupportedOperation",
                "type 1 / 12; add ! UnsupportedOperation",
                "type 1 2 / 11 11; add ! UnsupportedOperation",
                "type 1 2 1 / 2; add ! UnsupportedOperation",
                "type 1 2 / 11 12 21; add ! UnsupportedOperation; card 22; add = 0",
                "type 1 2 3 4 11 12 13 14 / 21 22 23 23; add ! UnsupportedOperation",
                "deal 24 23 22 21 / 14 13 12 11 / 4 3 2 1 = 0; of 0 s = 3; of 0 r = 4",
                "deal 1 2 3 4 11 12 13 14 21 22 23 24 / / / / = 0; cards 0 = 1 2 3 4 11 12 13 14 21 22 23 24 / / / /");
        doc.says("a card is told as 10 times the suit plus the rank.",
                "deal 14 3 / 22 2 24 13 / 11 1 / 21 12 / 23 4 = 0; cards 0 = 14 3 / 22 2 24 13 / 11 1 / 21 12 / 23 4",
                "players 1; deal 22 21 / = 0; lend 0 0; attempt 0 0 1 9 = x; reasons = t1 m9 s22");
        doc.says("The last card of a pile is its top.",
                "players 1; deal 2 1 / = 0; lend 0 0; attempt 0 0 9 9 = b",
                "players 1; deal 1 2 / = 0; lend 0 0; attempt 0 0 9 = x; reasons = t0 m9 s2",
                "deal 1 2 / = 0; cardOf 0 0 0 = 1; cardOf 0 0 1 = 2; moves 0 = 1");
    }

    private void movesOfDeals() {
        doc.says("A move takes the top of a pile to the stack of its suit, if that has all lower ranks, told as 9;",
                "players 1; deal 3 2 1 / = 0; lend 0 0; attempt 0 0 9 9 9 = b",
                "deal 1 / 11 / 21 = 0; moves 0 = 3",
                "players 1; deal 2 3 / 1 = 0; lend 0 0; attempt 0 0 19 9 = x; reasons = t1 m9 s3",
                "players 1; deal 3 4 2 1 / = 0; lend 0 0; attempt 0 0 9 9 9 = x; reasons = t2 m9 s4",
                "players 1; deal 12 1 / 11 2 = 0; lend 0 0; attempt 0 0 9 9 = x; reasons = t1 m9 s12",
                "players 1; deal 4 / 3 2 1 = 0; lend 0 0; attempt 0 0 19 19 19 9 = b",
                "players 1; deal 24 23 22 21 / 14 13 12 11 / 4 3 2 1 = 0; lend 0 0; "
                        + "attempt 0 0 9 9 9 9 19 19 19 19 29 29 29 29 = b");
        doc.says("or on another pile, told by its number, if this is empty,",
                "players 1; deal 2 1 / / = 0; lend 0 0; attempt 0 0 2 29 9 = b",
                "players 1; deal / 1 = 0; lend 0 0; attempt 0 0 10 1 10 9 = b",
                "deal 1 / / / / = 0; moves 0 = 5",
                "deal / 1 2 / = 0; moves 0 = 2",
                "deal 1 / 2 = 0; moves 0 = 1");
        doc.says("or has a top of another suit whose rank is 1 higher.",
                "players 1; deal 11 1 / 2 12 = 0; lend 0 0; attempt 0 0 1 = x; reasons = t1; moves 0 = 2",
                "players 1; deal 11 1 / 22 2 21 12 = 0; lend 0 0; attempt 0 0 1 = x; reasons = t1",
                "players 1; deal 12 1 / 2 11 = 0; lend 0 0; attempt 0 0 1 = x; reasons = t0 m1 p1",
                "players 1; deal 11 1 / 12 2 = 0; lend 0 0; attempt 0 0 1 = x; reasons = t0 m1 p1",
                "players 1; deal 1 12 / 2 11 = 0; lend 0 0; attempt 0 0 1 = x; reasons = t0 m1 p1",
                "players 1; deal 11 12 1 / 2 3 13 = 0; lend 0 0; attempt 0 0 1 = x; reasons = t0 m1 p1",
                "players 1; deal 1 2 3 / 11 12 13 14 4 = 0; lend 0 0; attempt 0 0 1 = x; reasons = t0 m1 p1",
                "players 1; deal 1 2 3 / 11 12 13 4 14 = 0; lend 0 0; attempt 0 0 1 = x; reasons = t1",
                "players 1; deal 1 2 14 / 11 3 4 12 13 = 0; lend 0 0; attempt 0 0 10 = x; reasons = t0 m10 p0");
        doc.says("A move is told as 10 times the pile it is from, plus where it goes.",
                "deal 1 2 / / / /; solve 0 999 = s; key 0 = 1 9 19; keyOf 0 0 = 1; keyOf 0 1 = 9; keyOf 0 2 = 19",
                "deal / / / / 1; solve 0 999 = s; keyOf 0 0 = 49",
                "players 1; deal / / / 1 2 /; lend 0 0; attempt 0 0 34 39 49 = b; key 0 = 34 39 49");
        doc.says("A deal is solved when all cards are on stacks.",
                "players 1; deal 2 1 / = 0; lend 0 0; attempt 0 0 9 = x; reasons = t1; state 0 = o; lend 0 0; attempt 0 0 9 9 = b",
                "players 1; deal 1 / 11 = 0; lend 0 0; attempt 0 0 9 = x; lend 0 0; attempt 0 0 19 = x; lend 0 0; attempt 0 0 19 9 = b",
                "players 1; deal 2 1 / = 0; lend 0 0; attempt 0 0 1 9 = x; reasons = t1 m9 s2");
        doc.says("Moves that can be made are ordered by the pile they are from,",
                "deal 1 / 11 = 0; solve 0 9 = s; key 0 = 9 19",
                "deal / / 11 / 1 / 21 = 0; solve 0 9999 = s; key 0 = 29 39 49");
        doc.says("then to the stack first,",
                "deal 2 1 / = 0; solve 0 9 = s; key 0 = 9 9; taken = 2",
                "deal 24 4 / 14 21 22 13 2 12 1 / 3 23 11 = 0; solve 0 999 = s; taken = 170; "
                        + "key 0 = 19 29 19 19 19 20 12 19 19 29 9 29 9 9");
        doc.says("then to piles by rising numbers.",
                "deal 1 2 / / = 0; solve 0 99 = s; key 0 = 1 9 19",
                "deal / / 1 2 / = 0; solve 0 99 = s; key 0 = 20 29 9");
        doc.says("A row of moves has at most 40.",
                "players 1; deal 2 1 / = 0; lend 0 0; go 9; 19x go 1 10; go 9; move 0 9 ! IllegalState; "
                        + "attempt 0 0 = b; of 0 k = 40; keyOf 0 39 = 9; keyOf 0 40 ! NoSuchElement",
                "players 1; deal 2 1 / = 0; lend 0 0; go 9; 19x go 1 10; go 1; move 1 9 ! IllegalState; "
                        + "attempt 0 0 = x; reasons = t40",
                "players 1; deal 2 1 / = 0; lend 0 0; go 9; 19x go 1 10; go 19; attempt 0 0 = x; reasons = t39 m19 e1",
                "deal / 1 13 24 21 4 22 14 / / 11 23 3 2 12 = 0; solve 0 20000 = s; of 0 k = 35; isSound = true");
    }

    private void likeDeals() {
        doc.says("Two deals are like if one becomes the other by other names of its suits, pile by pile.",
                "deal 1 / = 0; deal 21 / = 1; areLike 0 1 = true; areLike 1 0 = true; areLike 0 0 = true",
                "deal 1 12 / 11 2 = 0; deal 11 2 / 1 12 = 1; deal 21 12 / 11 22 = 2; areLike 0 1 = true; areLike 0 2 = true; "
                        + "areLike 2 1 = true",
                "deal 1 12 / 11 2 = 0; deal 1 12 / 2 11 = 1; deal 11 2 / 1 12 = 2; areLike 0 1 = false; areLike 1 2 = false",
                "deal 1 11 21 / = 0; deal 11 21 1 / = 1; deal 21 1 11 / = 2; deal 11 1 21 / = 3; deal 1 21 11 / = 4; "
                        + "deal 21 11 1 / = 5; areLike 0 1 = true; areLike 1 2 = true; areLike 3 2 = true; areLike 4 0 = true; "
                        + "areLike 5 3 = true",
                "deal 1 / = 0; deal / 1 = 1; deal 1 / / = 2; deal / 11 = 3; areLike 0 1 = false; areLike 0 2 = false; "
                        + "areLike 1 3 = true; areLike 2 1 = false",
                "deal 1 2 / 11 12 = 0; deal 1 12 / 11 2 = 1; deal 11 12 / 21 22 = 2; areLike 0 1 = false; areLike 0 2 = true",
                "deal 1 2 / = 0; deal 2 1 / = 1; deal 1 11 / = 2; deal 1 2 3 / = 3; areLike 0 1 = false; areLike 0 2 = false; "
                        + "areLike 2 3 = false; areLike 3 0 = false",
                // of the same ranks at all places, with one suit or two changing there
                "deal 1 2 11 12 3 13 / = 0; deal 1 2 11 12 13 3 / = 1; deal 21 22 1 2 23 3 / = 2; areLike 0 1 = false; areLike 0 2 = true",
                "deal 1 11 21 2 12 22 / = 0; deal 1 11 21 2 22 12 / = 1; deal 1 11 21 12 2 22 / = 2; deal 1 11 21 22 2 12 / = 3; "
                        + "areLike 0 1 = false; areLike 0 2 = false; areLike 0 3 = false; areLike 1 2 = false; areLike 2 3 = false",
                "deal 1 2 11 / 12 = 0; deal 11 12 1 / 2 = 1; deal 1 2 / 11 12 = 2; areLike 0 1 = true; areLike 0 2 = false",
                "deal 1 2 3 4 11 12 13 14 21 22 23 24 / / / / = 0; deal 21 22 23 24 1 2 3 4 11 12 13 14 / / / / = 1; "
                        + "deal 1 2 3 4 11 12 13 14 21 22 24 23 / / / / = 2; areLike 0 1 = true; areLike 0 2 = false");
    }

    // ---- Solver

    private void solver() {
        doc.says("Solver. It takes positions up one by one, the deal first,",
                "deal 1 / = 0; solve 0 1 = s; taken = 1; key 0 = 9",
                "deal 2 1 / = 0; solve 0 1 = o; taken = 1; state 0 = o");
        doc.says("then each one in the order in which it was found;",
                // [2][] and [2][1] are found in this order, and the first solves it
                "deal 2 1 / = 0; solve 0 2 = s; taken = 2",
                "deal 1 2 / = 0; solve 0 2 = o; solve 0 3 = s; taken = 3",
                // the deal, the three positions of two cards, and the first one of one card
                "deal 1 / 11 / 21 = 0; solve 0 4 = o; solve 0 5 = s; taken = 5");
        doc.says("of one it makes all moves in their order, and keeps the positions that were not found before;",
                "deal 1 / 11 = 0; reach 0 9 = 6; reach 0 5 ! UnsupportedOperation",
                "deal 1 / 11 / 21 = 0; reach 0 29 = 29; reach 0 28 ! UnsupportedOperation",
                "deal 12 1 / 11 2 13 3 = 0; solve 0 99 = d; taken = 3");
        doc.says("a position is the piles, as they are, one by one.",
                "deal 1 / = 0; reach 0 3 = 3; reach 0 2 ! UnsupportedOperation",
                "deal 1 / / = 0; reach 0 4 = 4; reach 0 3 ! UnsupportedOperation",
                "deal / / / / 1 = 0; reach 0 6 = 6; reach 0 5 ! UnsupportedOperation");
    }

    private void endsOfTheSolver() {
        doc.says("It ends as a solved position is found, with the row of moves by which it was found, the shortest one;",
                "deal 1 / / / / = 0; solve 0 20000 = s; taken = 1; key 0 = 9",
                "deal 1 2 / = 0; solve 0 20000 = s; taken = 3; key 0 = 1 9 19",
                "deal 4 3 2 1 / 14 13 12 11 / 24 23 22 21 = 0; solve 0 20000 = s; key 0 = 9 9 9 9 19 19 19 19 29 29 29 29",
                "players 1; deal 2 1 / = 0; lend 0 0; attempt 0 0 9 1 10 1 19 = b; solve 0 9 = s; key 0 = 9 9");
        doc.says("or as none is left, the deal is dead;",
                "deal 1 2 / 11 12 = 0; solve 0 1 = d; taken = 1; state 0 = d",
                "deal 1 2 / 11 12 = 0; solve 0 20000 = d; taken = 1",
                "deal 12 1 / 11 2 13 3 = 0; solve 0 3 = d; taken = 3; state 0 = d; solve 0 20000 = d; taken = 3");
        doc.says("or when it would take up more positions than its budget: the deal is open.",
                "deal 12 1 / 11 2 13 3 = 0; solve 0 1 = o; taken = 1; solve 0 2 = o; taken = 2; state 0 = o; solve 0 3 = d",
                "deal 1 2 / = 0; solve 0 1 = o; taken = 1; solve 0 2 = o; taken = 2; state 0 = o; key 0 =; solve 0 3 = s",
                "deal 24 1 4 / 14 2 3 / 13 12 23 22 / 21 11 / = 0; solve 0 20000 = o; taken = 20000; state 0 = o");
    }

    // ---- Archive

    private void archive() {
        doc.says("Archive. At most 12 entries are numbered from 0,",
                "deal 1 / = 0; 10x deal 1 /; deal 1 / = 11; type 1 /; add ! IllegalState; entries = 12; state 11 = o; "
                        + "state 12 ! IndexOutOfBounds; state -1 ! IndexOutOfBounds",
                "12x deal 1 /; solve 0 9; solve 1 9; entries = 11; state 11 ! IndexOutOfBounds; deal 1 / = 11; type 1 /; "
                        + "add ! IllegalState");
        doc.says("each a deal with copies, 1 at first,",
                "deal 1 /; of 0 c = 1; deal 1 /; of 1 c = 1; of 0 c = 1");
        doc.says("and a state: 'o' open, as at first, 'd' dead, 's' solved, with a solution that is its key.",
                "deal 2 1 /; state 0 = o; of 0 k = 0; keyOf 0 0 ! NoSuchElement; solve 0 9; state 0 = s; key 0 = 9 9",
                "players 1; deal 2 1 /; lend 0 0; attempt 0 0 9 = x; state 0 = o; lend 0 0; attempt 0 0 9 9; state 0 = s; key 0 = 9 9",
                "deal 1 2 / 11 12; state 0 = o; solve 0 9; state 0 = d; of 0 k = 0; keyOf 0 0 ! NoSuchElement");
    }

    private void betterKeys() {
        doc.says("Of two solutions the shorter one is better,",
                "players 1; deal 2 1 /; lend 0 0; attempt 0 0 1 19 9 = b; lend 0 0; attempt 0 0 9 9 = b; key 0 = 9 9; lend 0 0; "
                        + "attempt 0 0 1 19 9 = e; key 0 = 9 9");
        doc.says("of the same length that which has the lesser move where they first differ.",
                "players 1; deal 2 1 /; lend 0 0; attempt 0 0 9 1 19 = b; lend 0 0; attempt 0 0 1 19 9 = b; key 0 = 1 19 9; "
                        + "lend 0 0; attempt 0 0 9 1 19 = e; key 0 = 1 19 9; lend 0 0; attempt 0 0 1 19 9 = e",
                "players 1; deal 1 / 11 / 21; lend 0 0; attempt 0 0 9 29 19 = b; lend 0 0; attempt 0 0 9 19 29 = b; lend 0 0; "
                        + "attempt 0 0 19 9 29 = e; lend 0 0; attempt 0 0 9 29 19 = e; key 0 = 9 19 29",
                "players 1; deal 1 2 / /; lend 0 0; attempt 0 0 2 29 9 = x; lend 0 0; attempt 0 0 2 9 29 = b; lend 0 0; "
                        + "attempt 0 0 1 9 19 = b; key 0 = 1 9 19; lend 0 0; attempt 0 0 2 9 29 = e",
                // the number of the move is what is lesser, not its place in the solver's order
                "players 1; deal 24 4 / 14 21 22 13 2 12 1 / 3 23 11; solve 0 999 = s; lend 0 0; "
                        + "attempt 0 0 19 29 19 19 10 10 19 9 9 19 29 29 9 9 = b; points 0 = 30; "
                        + "key 0 = 19 29 19 19 10 10 19 9 9 19 29 29 9 9");
        doc.says("An entry's key becomes a better one when one is found,",
                "players 1; deal 2 1 /; lend 0 0; attempt 0 0 9 1 19; key 0 = 9 1 19; solve 0 2 = s; key 0 = 9 9; state 0 = s",
                "players 1; deal 1 2 /; lend 0 0; attempt 0 0 1 9 10 9; key 0 = 1 9 10 9; lend 0 0; attempt 0 0 1 9 19; "
                        + "key 0 = 1 9 19");
        doc.says("and is never worse again.",
                "players 1; deal 2 1 /; solve 0 2; lend 0 0; attempt 0 0 9 1 19 = e; key 0 = 9 9; state 0 = s",
                "deal 2 1 /; solve 0 2 = s; solve 0 1 = o; key 0 = 9 9; state 0 = s; of 0 k = 2",
                "players 1; deal 2 1 /; solve 0 2; lend 0 0; attempt 0 0 9 = x; key 0 = 9 9; state 0 = s",
                "players 1; deal 24 4 / 14 21 22 13 2 12 1 / 3 23 11; lend 0 0; "
                        + "attempt 0 0 19 29 19 19 10 10 19 9 9 19 29 29 9 9 = b; solve 0 999 = s; "
                        + "key 0 = 19 29 19 19 10 10 19 9 9 19 29 29 9 9");
    }

    private void meeting() {
        doc.says("If it is then the key of another entry, too, whose deal is like, they meet:",
                "deal 2 1 /; deal 12 11 /; solve 0 9 = s; entries = 2; solve 1 9 = s; entries = 1",
                "players 1; deal 2 1 /; deal 12 11 /; solve 0 9; lend 0 1; attempt 0 1 9 9 = b; entries = 1",
                "players 1; deal 2 1 /; deal 2 1 /; lend 0 0; attempt 0 0 1 19 9; solve 1 9; entries = 2; lend 0 0; "
                        + "attempt 0 0 9 1 19 = e; entries = 2; solve 0 9; entries = 1",
                // the same key of deals that are not like, and like deals of which one has no key
                "deal 2 1 /; deal 1 11 /; solve 0 9; solve 1 9; key 0 = 9 9; key 1 = 9 9; entries = 2; isSound = true",
                "deal 2 1 /; deal 2 1 / /; solve 0 9; solve 1 9; key 1 = 9 9; entries = 2",
                "deal 2 1 /; solve 0 9; deal 2 1 /; entries = 2; solve 1 1 = o; entries = 2; solve 0 9; entries = 2",
                "deal 1 2 / 11 12; deal 1 2 / 11 12; solve 0 9 = d; solve 1 9 = d; entries = 2");
        doc.says("the one with the higher number is gone,",
                "deal 2 1 /; deal 1 2 /; deal 12 11 /; solve 2 9; solve 0 9; entries = 2; cards 0 = 2 1 /; cards 1 = 1 2 /",
                "deal 2 1 /; deal 1 2 /; deal 12 11 /; solve 0 9; solve 2 9; entries = 2; cards 0 = 2 1 /; cards 1 = 1 2 /",
                "players 1; deal 2 1 /; deal 12 11 /; solve 1 9; lend 0 0; attempt 0 0 9 9 = b; entries = 1; cards 0 = 2 1 /");
        doc.says("its copies, loans and those who wait come to the other one, behind its own;",
                "players 2; deal 2 1 /; deal 2 1 /; copies 0 1; copies 1 3; lend 0 0; lend 1 1; lend 0 1; solve 0 9; solve 1 9; "
                        + "of 0 c = 6; of 0 l = 3; loans 0 = 2; loans 1 = 1; due 1 0 = 7",
                "players 4; deal 2 1 /; deal 2 1 /; lend 0 0; lend 1 1; await 3 1; await 2 0; solve 0 9; solve 1 9; of 0 w = 2; "
                        + "firstWaiting 0 = 2; leave 2 0 = 1; firstWaiting 0 = 3",
                "players 6; deal 2 1 /; deal 2 1 /; lend 0 0; lend 1 1; await 5 1; await 2 1; await 4 0; await 3 0; solve 1 9; "
                        + "solve 0 9; of 0 w = 4; giveBack 0 0; loans 4 = 1; giveBack 1 0; loans 3 = 1; giveBack 4 0; "
                        + "loans 5 = 1; giveBack 3 0; loans 2 = 1; of 0 w = 0");
        doc.says("numbers above are 1 less.",
                "players 1; deal 2 1 /; deal 2 1 /; deal 1 2 /; deal 1 2 / 11 12; solve 3 9 = d; lend 0 2; solve 0 9; solve 1 9; "
                        + "entries = 3; cards 1 = 1 2 /; label 1 = o1:-*; label 2 = d2:-; due 0 1 = 7; state 3 ! IndexOutOfBounds",
                "players 2; deal 1 2 /; deal 2 1 /; deal 2 1 /; deal 3 2 1 /; lend 0 0; lend 1 3; await 0 3; solve 2 9; solve 1 9; "
                        + "entries = 3; due 0 0 = 7; due 1 2 = 7; firstWaiting 2 = 0; of 1 l = 0");
        doc.says("Nothing is paid by that, and copies may be more than 9 so.",
                "players 2; deal 2 1 /; deal 2 1 /; lend 0 0; lend 1 1; solve 0 9; solve 1 9; points 0 = 20; points 1 = 20",
                "players 2; deal 2 1 /; deal 2 1 /; lend 0 0; lend 1 1; solve 0 9; attempt 1 1 9 9 = b; points 0 = 20; points 1 = 30",
                "deal 1 /; deal 1 /; 2x copies 0 3; copies 0 2 = 9; 2x copies 1 3; copies 1 2 = 9; solve 0 9; solve 1 9; "
                        + "of 0 c = 18; copies 0 1 ! IllegalState; of 0 c = 18",
                "players 1; deal 1 /; deal 1 /; deal 1 /; copies 0 3; copies 1 3; copies 2 1; solve 2 9; solve 1 9; solve 0 9; "
                        + "entries = 1; of 0 c = 10; copies 0 1 ! IllegalState; lend 0 0 = 9");
    }

    private void waitingAsEntriesMeet() {
        doc.says("Who waited for both waits once, at the earlier place;",
                "players 4; deal 2 1 /; deal 2 1 /; lend 0 0; lend 1 1; await 3 0; await 2 0; await 2 1; await 3 1; solve 0 9; "
                        + "solve 1 9; of 0 w = 2; firstWaiting 0 = 3; leave 3 0 = 1; firstWaiting 0 = 2; leave 2 0 = 0",
                "players 5; deal 2 1 /; deal 2 1 /; lend 0 0; lend 1 1; await 2 1; await 3 1; await 4 1; await 4 0; solve 0 9; "
                        + "solve 1 9; of 0 w = 3; firstWaiting 0 = 4; leave 4 0 = 2; firstWaiting 0 = 2",
                "players 3; deal 2 1 /; deal 2 1 /; lend 0 0; lend 1 1; await 2 0; await 2 1; solve 0 9; solve 1 9; giveBack 0 0; "
                        + "loans 2 = 1; of 0 w = 0; giveBack 1 0; loans 2 = 1; lend 1 0 = 0");
        doc.says("who has a copy and waits waits on;",
                "players 2; deal 2 1 /; deal 2 1 /; lend 0 0; lend 1 1; await 1 0; await 0 1; solve 0 9; solve 1 9; of 0 w = 2; "
                        + "of 0 l = 2; firstWaiting 0 ! NoSuchElement; giveBack 0 0 = 12; loans 0 = 1; of 0 w = 1; of 0 l = 2; "
                        + "firstWaiting 0 ! NoSuchElement; leave 1 0 = 0",
                "players 2; deal 2 1 /; deal 2 1 /; lend 0 0; lend 1 1; await 0 1; solve 0 9; solve 1 9; copies 0 2 = 4; "
                        + "of 0 w = 1; of 0 l = 2; loans 0 = 1; lend 0 0 ! UnsupportedOperation; attempt 0 0 9 9 = e; "
                        + "loans 0 = 1; of 0 w = 0");
        doc.says("who has two copies of an entry so tries, or gives back, the one lent earlier first.",
                "players 1; deal 2 1 /; deal 2 1 /; lend 0 1; days 3; lend 0 0; solve 0 9; solve 1 9; loans 0 = 2; due 0 0 = 4; "
                        + "giveBack 0 0 = 12; due 0 0 = 7; loans 0 = 1; giveBack 0 0 = 4; loans 0 = 0",
                "players 1; deal 2 1 /; deal 2 1 /; lend 0 0; days 3; lend 0 1; solve 0 9; solve 1 9; due 0 0 = 4; "
                        + "attempt 0 0 = x; due 0 0 = 7; attempt 0 0 = x; due 0 0 ! NoSuchElement",
                "players 1; deal 1 /; deal 1 /; deal 1 /; lend 0 1; days 1; lend 0 2; days 1; lend 0 0; solve 0 9; solve 2 9; "
                        + "solve 1 9; loans 0 = 3; due 0 0 = 5; giveBack 0 0; due 0 0 = 6; attempt 0 0 9 = e; due 0 0 = 7");
    }

    private void list() {
        doc.says("The list has solved entries by their keys, the better ones first,",
                "deal 1 2 /; deal 3 2 1 /; deal 2 1 /; solve 0 9; solve 1 9; solve 2 9; key 0 = 1 9 19; key 1 = 9 9 9; list = 2 0 1",
                "deal 11 / 1; deal 2 1 /; deal / 2 1; solve 0 9; solve 1 9; solve 2 9; key 0 = 9 19; key 2 = 19 19; list = 1 0 2");
        doc.says("of the same key by numbers,",
                "deal 2 1 /; deal 1 11 /; deal 1 /; deal 2 1 / /; solve 3 9; solve 1 9; solve 2 9; solve 0 9; list = 2 0 1 3");
        doc.says("then open ones, then dead ones, by numbers.",
                "deal 1 2 / 11 12; deal 2 1 /; deal 1 2 / 11 12; deal 1 /; deal 2 1 /; solve 2 9; solve 0 9; solve 3 9; "
                        + "list = 3 1 4 0 2; listed 5 ! NoSuchElement; listed -1 ! NoSuchElement",
                "deal 1 2 / 11 12; deal 2 1 /; list = 0 1; solve 0 9; list = 1 0",
                "list =; listed 0 ! NoSuchElement");
    }

    // ---- Loans

    private void whoIsLent() {
        doc.says("Loans. At most 6 players are numbered from 0, with 20 points at first.",
                "player = 0; player = 1; points 0 = 20; points 1 = 20; points 2 ! IndexOutOfBounds; points -1 ! IndexOutOfBounds",
                "players 5; player = 5; points 5 = 20; player ! IllegalState; points 6 ! IndexOutOfBounds");
        doc.says("A copy that is not lent can be lent,",
                "players 3; deal 1 /; copies 0 1; lend 0 0 = 1; lend 1 0 = 0; lend 2 0 ! NoSuchElement; copies 0 1; lend 2 0 = 0",
                "players 2; deal 1 /; lend 0 0 = 0; lend 1 0 ! NoSuchElement; giveBack 0 0; lend 1 0 = 0",
                "players 1; deal 1 2 / 11 12; solve 0 9 = d; lend 0 0 = 0; giveBack 0 0; deal 1 /; solve 1 9 = s; lend 0 1 = 0");
        doc.says("to a player with at most 2 loans so far",
                "players 1; 4x deal 1 /; lend 0 0; lend 0 1; lend 0 2 = 0; lend 0 3 ! UnsupportedOperation; loans 0 = 3; "
                        + "giveBack 0 1; lend 0 3 = 0; lend 0 1 ! UnsupportedOperation");
        doc.says("and points of 0 or more,",
                "players 1; deal 1 /; fails 0 0 4; points 0 = 0; lend 0 0 = 0",
                "players 1; deal 1 /; lend 0 0; days 28; points 0 = -1; giveBack 0 0 = -9; lend 0 0 ! UnsupportedOperation",
                "players 1; deal 1 /; lend 0 0; giveBack 0 0; lend 0 0; giveBack 0 0 = 4; fails 0 0 1; points 0 = -1; "
                        + "lend 0 0 ! UnsupportedOperation",
                "players 1; 2x deal 1 /; lend 0 0; lend 0 1; days 17; points 0 = 0; attempt 0 0 = x; attempt 0 1 9 = b; points 0 = 5; "
                        + "lend 0 0 = 0");
        doc.says("who has none of this entry",
                "players 1; deal 1 /; copies 0 3; lend 0 0 = 3; lend 0 0 ! UnsupportedOperation; giveBack 0 0; lend 0 0 = 3",
                "players 1; deal 1 /; deal 1 /; lend 0 0; copies 1 1; solve 0 9; solve 1 9; of 0 c = 3; lend 0 0 ! UnsupportedOperation");
        doc.says("and does not wait for it;",
                // who waited had 3 loans as a copy of the entry 3 came back; a copy of another one comes back since
                "players 2; 4x deal 1 /; lend 0 0; lend 0 1; lend 0 2; lend 1 3; await 0 3; giveBack 1 3; giveBack 0 0; of 3 l = 0; "
                        + "lend 0 3 ! UnsupportedOperation; leave 0 3 = 0; lend 0 3 = 0");
        doc.says("for 7 days.",
                "players 1; deal 1 /; lend 0 0; due 0 0 = 7; days 6; due 0 0 = 1; days 1; due 0 0 = 0; days 1; due 0 0 = -1",
                "players 1; days 30; deal 1 /; lend 0 0; due 0 0 = 7");
    }

    private void tries() {
        doc.says("A try ends the loan: a row of moves.",
                "players 1; deal 2 1 /; lend 0 0; attempt 0 0 9 9 = b; loans 0 = 0; of 0 l = 0; lend 0 0; attempt 0 0 9 9 = e; "
                        + "loans 0 = 0; lend 0 0; attempt 0 0 9 = x; loans 0 = 0; of 0 l = 0; attempt 0 0 ! NoSuchElement");
        doc.says("If it solves the deal, and is better than the key, or there was none, it becomes the key, and the player gets 10 points,",
                "players 1; deal 2 1 /; lend 0 0; attempt 0 0 9 1 19 = b; points 0 = 30; key 0 = 9 1 19",
                "players 1; deal 2 1 /; lend 0 0; attempt 0 0 9 1 19 = b; lend 0 0; attempt 0 0 1 19 9 = b; points 0 = 40; key 0 = 1 19 9");
        doc.says("and 2 more for each move by which it is shorter;",
                "players 1; deal 2 1 /; lend 0 0; attempt 0 0 9 1 19 = b; lend 0 0; attempt 0 0 9 9 = b; points 0 = 42; key 0 = 9 9",
                "players 1; deal 2 1 /; lend 0 0; go 9; 19x go 1 10; attempt 0 0 9 = b; of 0 k = 40; points 0 = 30; lend 0 0; "
                        + "attempt 0 0 9 9 = b; points 0 = 116");
        doc.says("if it solves it otherwise, the player gets 2;",
                "players 1; deal 2 1 /; solve 0 9; lend 0 0; attempt 0 0 9 9 = e; points 0 = 22; lend 0 0; attempt 0 0 9 1 19 = e; "
                        + "points 0 = 24; key 0 = 9 9",
                "players 1; deal 1 / 11; solve 0 9; lend 0 0; attempt 0 0 19 9 = e; points 0 = 22; key 0 = 9 19");
        doc.says("else the player loses 5.",
                "players 1; deal 2 1 /; lend 0 0; attempt 0 0 = x; points 0 = 15; lend 0 0; attempt 0 0 9 = x; points 0 = 10; lend 0 0; "
                        + "attempt 0 0 9 9 9 = x; points 0 = 5; lend 0 0; attempt 0 0 10 = x; points 0 = 0; lend 0 0; "
                        + "attempt 0 0 = x; points 0 = -5; state 0 = o");
        doc.says("To give a copy back without a try costs 8.",
                "players 1; deal 1 /; lend 0 0; giveBack 0 0 = 12; points 0 = 12; lend 0 0; giveBack 0 0 = 4; lend 0 0; giveBack 0 0 = -4");
        doc.says("Each day behind the 7 days costs 1, for each copy.",
                "players 1; deal 1 /; lend 0 0; days 7; points 0 = 20; days 1; points 0 = 19; days 2; points 0 = 17",
                "players 1; deal 1 /; lend 0 0; days 9; points 0 = 18; days 30; points 0 = -12",
                "players 2; 2x deal 1 /; lend 0 0; days 2; lend 0 1; days 6; points 0 = 19; days 1; points 0 = 18; days 1; points 0 = 16; "
                        + "points 1 = 20",
                "players 1; 2x deal 1 /; lend 0 0; lend 0 1; solve 0 9; solve 1 9; days 8; points 0 = 18; attempt 0 0 9 = e; points 0 = 20; "
                        + "days 1; points 0 = 19",
                "players 1; deal 1 /; lend 0 0; days 9; giveBack 0 0 = 10; days 30; points 0 = 10");
    }

    private void waiting() {
        doc.says("Who cannot be lent a copy since all are lent can wait:",
                "players 3; deal 1 /; await 0 0 ! UnsupportedOperation; lend 0 0; await 1 0 = 1; await 2 0 = 2; of 0 w = 2; of 0 l = 1",
                "players 2; deal 1 /; copies 0 1; lend 0 0; await 1 0 ! UnsupportedOperation; of 0 w = 0",
                // points below 0, or 3 loans, do not keep a player from waiting
                "players 2; deal 1 /; fails 1 0 5; points 1 = -5; lend 0 0; await 1 0 = 1; firstWaiting 0 ! NoSuchElement",
                "players 2; 4x deal 1 /; lend 1 0; lend 1 1; lend 1 2; lend 0 3; await 1 3 = 1; firstWaiting 3 ! NoSuchElement");
        doc.says("when a copy comes back, behind all that a try brings,",
                "players 2; deal 1 /; lend 0 0; await 1 0; giveBack 0 0 = 12; loans 1 = 1; due 1 0 = 7; of 0 w = 0",
                "players 2; deal 1 /; lend 0 0; await 1 0; attempt 0 0 = x; loans 1 = 1; of 0 w = 0; lend 0 0 ! NoSuchElement",
                "players 2; deal 1 /; lend 0 0; days 2; await 1 0; attempt 0 0 9 = b; loans 1 = 1; due 1 0 = 7",
                // the player who tries waits, too, and has more points than the other one by the try, or less
                "players 3; 2x deal 2 1 /; lend 0 0; lend 2 1; await 1 0; await 0 1; solve 0 9; solve 1 9; attempt 0 0 9 9 = e; "
                        + "points 0 = 22; loans 0 = 1; loans 1 = 0; firstWaiting 0 = 1",
                "players 3; 2x deal 2 1 /; lend 0 1; lend 2 0; await 0 0; await 1 0; solve 0 9; solve 1 9; attempt 0 0 = x; "
                        + "points 0 = 15; loans 0 = 0; loans 1 = 1; firstWaiting 0 = 0",
                "players 3; 2x deal 2 1 /; lend 0 1; lend 2 0; await 0 0; await 1 0; solve 0 9; solve 1 9; giveBack 0 0 = 12; "
                        + "loans 0 = 0; loans 1 = 1; firstWaiting 0 = 0",
                // points below 0 by the try: the player cannot be lent it again
                "players 2; 2x deal 2 1 /; copies 0 3; fails 0 0 4; lend 1 1; lend 0 0; copies 0 1; solve 0 9; await 0 1; solve 1 9; "
                        + "of 0 w = 1; attempt 0 0 = x; points 0 = -5; loans 0 = 0; of 0 w = 1",
                // entries meet by the try, and who waits for the lower one is before
                "players 4; 2x deal 2 1 /; solve 0 9; lend 0 1; lend 1 0; await 3 1; await 2 0; attempt 0 1 9 9 = b; entries = 1; "
                        + "loans 2 = 1; loans 3 = 0; firstWaiting 0 = 3");
        doc.says("or copies are added,",
                "players 4; deal 1 /; lend 0 0; await 1 0; await 2 0; await 3 0; copies 0 2 = 3; of 0 l = 3; loans 1 = 1; loans 2 = 1; "
                        + "loans 3 = 0; firstWaiting 0 = 3",
                "players 2; deal 1 /; lend 0 0; await 1 0; copies 0 3 = 4; of 0 l = 2; of 0 w = 0; days 3; due 1 0 = 4");
        doc.says("or entries meet,",
                "players 3; 2x deal 2 1 /; lend 0 0; await 1 0; await 2 0; solve 0 9; solve 1 9; of 0 l = 2; of 0 w = 1; loans 1 = 1; "
                        + "due 1 0 = 7; firstWaiting 0 = 2",
                "players 3; 2x deal 2 1 /; lend 0 1; await 1 1; await 2 1; solve 0 9; copies 0 2; solve 1 9; of 0 c = 4; of 0 l = 3; "
                        + "of 0 w = 0; loans 1 = 1; loans 2 = 1");
    }

    private void serving() {
        doc.says("each copy that is there is lent to the one with the most points of those who wait and could be lent it,",
                "players 4; deal 1 /; fails 1 0 1; lend 0 0; await 1 0; await 2 0; await 3 0; firstWaiting 0 = 2; copies 0 2; loans 1 = 0; "
                        + "loans 2 = 1; loans 3 = 1; firstWaiting 0 = 1",
                "players 4; 4x deal 1 /; fails 3 0 5; lend 1 0; lend 1 1; lend 1 2; lend 0 3; await 1 3; await 3 3; await 2 3; "
                        + "firstWaiting 3 = 2; giveBack 0 3; loans 2 = 1; firstWaiting 3 ! NoSuchElement; of 3 w = 2; "
                        + "giveBack 2 3; of 3 l = 0; of 3 w = 2; copies 3 1 = 2; of 3 w = 2; giveBack 1 0; of 3 w = 2; "
                        + "copies 3 1 = 3; of 3 w = 1; loans 1 = 3",
                "players 2; deal 1 /; fails 1 0 4; points 1 = 0; lend 0 0; await 1 0; firstWaiting 0 = 1; giveBack 0 0; loans 1 = 1",
                // two copies are there: one came back as none could be lent it, one is added
                "players 4; 2x deal 1 /; fails 2 0 5; lend 0 0; await 2 0; giveBack 0 0; of 0 l = 0; lend 0 0; lend 2 1 "
                        + "! UnsupportedOperation; await 1 0 = 2; await 3 0 = 3; copies 0 3; of 0 l = 3; of 0 w = 1");
        doc.says("of several the one who waits longest;",
                "players 4; deal 1 /; lend 0 0; await 3 0; await 1 0; await 2 0; firstWaiting 0 = 3; giveBack 0 0; loans 3 = 1; "
                        + "firstWaiting 0 = 1; leave 1 0 = 1; await 1 0 = 2; firstWaiting 0 = 2; giveBack 3 0; loans 2 = 1",
                "players 4; deal 1 /; fails 1 0 1; fails 2 0 1; fails 3 0 2; lend 0 0; await 3 0; await 2 0; await 1 0; firstWaiting 0 = 2; "
                        + "giveBack 0 0; loans 2 = 1; firstWaiting 0 = 1; giveBack 2 0; loans 1 = 1; firstWaiting 0 = 3");
        doc.says("who is lent it waits no more.",
                "players 2; deal 1 /; lend 0 0; await 1 0; giveBack 0 0; of 0 w = 0; leave 1 0 ! NoSuchElement; giveBack 1 0; of 0 l = 0",
                // but for another entry the player waits on
                "players 2; 2x deal 1 /; lend 0 0; lend 0 1; await 1 0; await 1 1; giveBack 0 0; loans 1 = 1; of 1 w = 1; leave 1 1 = 0");
    }

    // ---- Reasons and exceptions

    private void reasons() {
        doc.says("Reasons. A try that is no solution is kept with why:",
                "why 0 ! NoSuchElement; whyNumber 0 ! NoSuchElement; players 1; deal 2 1 /; lend 0 0; attempt 0 0 9 1 9 = x; "
                        + "reasons = t2 m9 e0; lend 0 0; attempt 0 0 9 9 = b; reasons = t2 m9 e0; lend 0 0; attempt 0 0 9 9 = e; "
                        + "reasons = t2 m9 e0; lend 0 0; attempt 0 0 9 = x; reasons = t1; why 1 ! NoSuchElement");
        doc.says("'t' and the place, from 0, of the first move that cannot be made, or how many moves there are if all can, "
                        + "the deal not being solved then;",
                "players 1; deal 2 1 /; lend 0 0; attempt 0 0 10 9 9 = x; reasons = t0 m10 e1",
                "players 1; deal 2 1 /; lend 0 0; attempt 0 0 9 10 19 = x; reasons = t1 m10 e1",
                "players 1; deal 2 1 /; lend 0 0; attempt 0 0 = x; reasons = t0; why 0 = t; whyNumber 0 = 0; why 1 ! NoSuchElement",
                "players 1; deal 2 1 /; lend 0 0; attempt 0 0 9 1 10 = x; reasons = t3",
                "players 1; deal 2 1 /; lend 0 0; attempt 0 0 9 9 9 = x; reasons = t2 m9 e0");
        doc.says("as its cause, if a move could not be made, 'm' and this move;",
                "players 1; deal 2 1 /; lend 0 0; attempt 0 0 43 9 = x; why 1 = m; whyNumber 1 = 43",
                "players 1; deal 2 1 /; lend 0 0; attempt 0 0 9 = x; why 1 ! NoSuchElement; whyNumber 1 ! NoSuchElement");
        doc.says("as the cause of that 'e' and the pile it is from, if this is empty or there is none,",
                "players 1; deal 2 1 /; lend 0 0; attempt 0 0 10 = x; reasons = t0 m10 e1",
                "players 1; deal 2 1 /; lend 0 0; attempt 0 0 19 = x; reasons = t0 m19 e1",
                "players 1; deal 2 1 /; lend 0 0; attempt 0 0 29 = x; reasons = t0 m29 e2",
                "players 1; deal 2 1 /; lend 0 0; attempt 0 0 43 = x; reasons = t0 m43 e4",
                "players 1; deal 2 1 / / / /; lend 0 0; attempt 0 0 42 = x; reasons = t0 m42 e4");
        doc.says("'s' and the card, if it cannot go to a stack,",
                "players 1; deal 11 12 / 1 2; lend 0 0; attempt 0 0 9 = x; reasons = t0 m9 s12",
                "players 1; deal 11 12 / 1 2; lend 0 0; attempt 0 0 19 = x; reasons = t0 m19 s2",
                "players 1; deal 21 22 23 24 /; lend 0 0; attempt 0 0 1 9 = x; reasons = t1 m9 s23");
        doc.says("'p' and the pile to which it cannot go, otherwise.",
                "players 1; deal 11 12 / 1 2; lend 0 0; attempt 0 0 1 = x; reasons = t0 m1 p1",
                "players 1; deal 11 12 / 1 2; lend 0 0; attempt 0 0 10 = x; reasons = t0 m10 p0",
                "players 1; deal 11 12 / 1 2; lend 0 0; attempt 0 0 2 = x; reasons = t0 m2 p2; whyNumber 2 = 2",
                "players 1; deal 11 12 / 1 2; lend 0 0; attempt 0 0 14 = x; reasons = t0 m14 p4");
    }

    /** Script holds that a run without its refused calls leaves the same behind. */
    private void refusedCalls() {
        String two = "players 2; 2x deal 2 1 /; lend 0 0; days 9; await 1 0; go 9; type 1 / 2; ";
        doc.says("Exceptions. A method that throws an exception changes nothing but what is told of it.",
                two + "card 5 ! IllegalArgument; move 1 1 ! IllegalArgument; move 5 9 ! IllegalArgument; move 0 5 ! IllegalArgument",
                two + "card 1; add ! UnsupportedOperation; copies 0 4 ! IllegalArgument; copies 2 1 ! IndexOutOfBounds",
                two + "of 2 p ! IndexOutOfBounds; of 0 x ! IllegalArgument; state 2 ! IndexOutOfBounds; listed 2 ! NoSuchElement",
                two + "cardOf 2 0 0 ! IndexOutOfBounds; cardOf 0 0 2 ! NoSuchElement; keyOf 2 0 ! IndexOutOfBounds; keyOf 0 0 ! NoSuchElement",
                two + "solve 2 9 ! IndexOutOfBounds; solve 0 0 ! IllegalArgument; solve 1 20001 ! IllegalArgument; taken = 0; solve 1 1; "
                        + "solve 1 0 ! IllegalArgument; taken = 1",
                two + "reach 2 9 ! IndexOutOfBounds; reach 0 0 ! IllegalArgument; reach 0 4 ! UnsupportedOperation; taken = 0; "
                        + "solve 0 1; reach 0 4 ! UnsupportedOperation; taken = 1; state 0 = o",
                two + "moves 2 ! IndexOutOfBounds; areLike 2 0 ! IndexOutOfBounds; areLike 0 2 ! IndexOutOfBounds; find ! NoSuchElement",
                two + "points 2 ! IndexOutOfBounds; loans 2 ! IndexOutOfBounds; lend 2 1 ! IndexOutOfBounds; lend 1 2 ! IndexOutOfBounds; "
                        + "lend 1 0 ! NoSuchElement; copies 0 3; lend 0 0 ! UnsupportedOperation",
                two + "await 2 0 ! IndexOutOfBounds; await 0 2 ! IndexOutOfBounds; await 0 0 ! UnsupportedOperation; "
                        + "await 1 0 ! UnsupportedOperation; await 1 1 ! UnsupportedOperation",
                two + "leave 2 0 ! IndexOutOfBounds; leave 1 2 ! IndexOutOfBounds; leave 0 0 ! NoSuchElement; leave 1 1 ! NoSuchElement",
                two + "attempt 2 0 ! IndexOutOfBounds; attempt 0 2 ! IndexOutOfBounds; attempt 1 0 ! NoSuchElement; "
                        + "attempt 0 1 ! NoSuchElement; attempt 0 0 = x; reasons = t1",
                two + "giveBack 2 0 ! IndexOutOfBounds; giveBack 0 2 ! IndexOutOfBounds; giveBack 1 0 ! NoSuchElement; "
                        + "giveBack 0 1 ! NoSuchElement; points 0 = 18; points 1 = 20",
                two + "due 2 0 ! IndexOutOfBounds; due 0 2 ! IndexOutOfBounds; due 1 0 ! NoSuchElement; days 0 ! IllegalArgument; "
                        + "days 31 ! IllegalArgument; days 1 = 10",
                two + "firstWaiting 2 ! IndexOutOfBounds; firstWaiting 1 ! NoSuchElement; why 0 ! NoSuchElement; "
                        + "whyNumber 0 ! NoSuchElement; label 2 0 ! IndexOutOfBounds; label 0 5 ! NoSuchElement",
                "solvedShare ! Arithmetic; meanPoints ! Arithmetic; players 6; player ! IllegalState",
                "type 1 2 3 4 / 11 12 13 14 / 21 22 23 24; 6x card 1 ! IllegalState; 2x pile; 3x pile ! IllegalState; add = 0",
                "go 9; 19x go 1 10; go 1; 9x move 1 9 ! IllegalState; wipe = 40",
                "12x deal 1 /; type 2 1 /; go 9; 3x add ! IllegalState; solve 0 9; solve 1 9; find = 0; add = 11; cards 11 = 2 1 /",
                "deal 1 /; 2x copies 0 3; copies 0 3 ! IllegalState; copies 0 2 = 9; copies 0 1 ! IllegalState");
    }

    private void orderOfExceptions() {
        doc.says("If several conditions of a method apply, the exception that is listed first is thrown.",
                "type 1 2 3 4 11 12 13 14 21 22 23 24; card 1 ! IllegalState; card 25 ! IllegalArgument",
                "20x go 1 10; move 0 1 ! IllegalState; move 0 0 ! IllegalArgument; move 5 9 ! IllegalArgument",
                "12x deal 1 /; add ! UnsupportedOperation; type 1 /; add ! IllegalState",
                "deal 1 /; copies 1 4 ! IndexOutOfBounds; 2x copies 0 3; copies 0 3 ! IllegalState; copies 0 4 ! IllegalArgument; "
                        + "copies 1 3 ! IndexOutOfBounds",
                "of 0 x ! IndexOutOfBounds; cardOf 0 9 9 ! IndexOutOfBounds; keyOf 0 0 ! IndexOutOfBounds",
                "solve 0 0 ! IndexOutOfBounds; reach 0 20001 ! IndexOutOfBounds; deal 2 1 /; reach 0 0 ! IllegalArgument",
                // the player has 3 loans, and all copies are lent
                "players 2; 4x deal 1 /; lend 0 0; lend 0 1; lend 0 2; lend 1 3; lend 0 3 ! NoSuchElement; lend 0 0 ! NoSuchElement; "
                        + "lend 2 3 ! IndexOutOfBounds; lend 0 4 ! IndexOutOfBounds",
                "players 1; deal 1 /; await 1 0 ! IndexOutOfBounds; await 0 1 ! IndexOutOfBounds; await 0 0 ! UnsupportedOperation",
                "players 1; deal 1 /; leave 1 0 ! IndexOutOfBounds; leave 0 1 ! IndexOutOfBounds; leave 0 0 ! NoSuchElement",
                "players 1; deal 1 /; attempt 1 0 ! IndexOutOfBounds; attempt 0 1 ! IndexOutOfBounds; attempt 0 0 ! NoSuchElement",
                "players 1; deal 1 /; giveBack 1 0 ! IndexOutOfBounds; giveBack 0 1 ! IndexOutOfBounds; giveBack 0 0 ! NoSuchElement",
                "players 1; deal 1 /; due 1 0 ! IndexOutOfBounds; due 0 1 ! IndexOutOfBounds; due 0 0 ! NoSuchElement",
                "firstWaiting 0 ! IndexOutOfBounds; label 0 99 ! IndexOutOfBounds; deal 1 /; firstWaiting 0 ! NoSuchElement; "
                        + "label 0 99 ! NoSuchElement");
    }
}
