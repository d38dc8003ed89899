/** The words under 'Promise 1' to 'Promise 38', sentence by sentence; none of them is left without a run of calls. */
public final class SentencesTest {
    private final Sentences doc = new Sentences();

    private SentencesTest() {
    }

    public static void main(String[] args) {
        SentencesTest test = new SentencesTest();
        test.newObject();
        test.card();
        test.pile();
        test.move();
        test.wipe();
        test.add();
        test.copies();
        test.entries();
        test.of();
        test.state();
        test.cardOf();
        test.keyOf();
        test.solve();
        test.taken();
        test.reach();
        test.moves();
        test.areLike();
        test.find();
        test.listed();
        test.player();
        test.points();
        test.loans();
        test.lend();
        test.await();
        test.leave();
        test.attempt();
        test.giveBack();
        test.due();
        test.days();
        test.firstWaiting();
        test.why();
        test.whyNumber();
        test.label();
        test.keyMoves();
        test.checksum();
        test.solvedShare();
        test.meanPoints();
        test.isSound();
        test.doc.promises().forEach(test.doc::whole);
        test.doc.end("SentencesTest");
    }

    private void promise(String heading) {
        doc.section("Promise " + heading);
    }

    // ---- What is typed

    private void newObject() {
        promise("1: A new object");
        doc.says("Creates an archive without entries and players,",
                "entries = 0; listed 0 ! NoSuchElement; state 0 ! IndexOutOfBounds; solvedShare ! Arithmetic; keyMoves = 0",
                "points 0 ! IndexOutOfBounds; loans 0 ! IndexOutOfBounds; meanPoints ! Arithmetic; checksum = 7; isSound = true",
                "wipe = 0; find ! NoSuchElement; why 0 ! NoSuchElement; taken = 0; player = 0; deal 1 / = 0");
        doc.says("on the day 0.", "days 1 = 1; days 1 = 2", "days 30 = 30");
    }

    private void card() {
        promise("2: card");
        doc.says("Types a card on the pile that is told now.",
                "card 1 = 1; pile = 1; card 2 = 1; card 3 = 2; add = 0; cards 0 = 1 / 2 3",
                "pile; card 2; wipe; card 1; pile; add = 0; cards 0 = 1 /",
                "pile; pile; card 1; add = 0; cards 0 = / / 1; card 1 = 1; pile; add = 1; cards 1 = 1 /");
        doc.says("Returns how many cards the pile has.",
                "card 1 = 1; card 1 = 2; card 24 = 3; pile; card 11 = 1; pile; card 1 = 1; card 2 = 2; wipe = 6; card 1 = 1",
                "card 4 = 1; card 14 = 2; card 24 = 3; card 1 = 4; card 11 = 5; card 21 = 6; card 3 = 7; card 13 = 8; card 23 = 9; "
                        + "card 2 = 10; card 12 = 11; card 22 = 12");
        doc.says("Throws `IllegalArgumentException` if there is no such suit or rank",
                "card 0 ! IllegalArgument; card 5 ! IllegalArgument; card 6 ! IllegalArgument; card 9 ! IllegalArgument",
                "card 10 ! IllegalArgument; card 15 ! IllegalArgument; card 20 ! IllegalArgument; card 25 ! IllegalArgument",
                "card 30 ! IllegalArgument; card 31 ! IllegalArgument; card 34 ! IllegalArgument; card 101 ! IllegalArgument",
                "card -1 ! IllegalArgument; card -4 ! IllegalArgument; card -6 ! IllegalArgument; card -9 ! IllegalArgument; "
                        + "card -21 ! IllegalArgument; card min ! IllegalArgument; card max ! IllegalArgument",
                "card 1 = 1; card 4 = 2; card 11 = 3; card 14 = 4; card 21 = 5; card 24 = 6");
        doc.says("Throws `IllegalStateException` if 12 cards are typed",
                "11x card 1; card 24 = 12; card 1 ! IllegalState; pile; card 1 ! IllegalState; wipe = 12; card 1 = 1",
                "6x card 1; pile; 5x card 1; card 24 = 6; card 1 ! IllegalState; 3x pile; card 1 ! IllegalState",
                "4x card 1; 4x pile; 8x card 1; card 4 ! IllegalState",
                "deal 1 2 3 4 11 12 13 14 / 21 22 23 24; card 1 = 1");
    }

    private void pile() {
        promise("3: pile");
        doc.says("Goes on to the next pile.",
                "card 1; pile; card 2; pile; card 3; add = 0; cards 0 = 1 / 2 / 3",
                "pile; pile; card 1; pile; add = 0; cards 0 = / / 1 /");
        doc.says("Returns its number.",
                "pile = 1; pile = 2; pile = 3; pile = 4; wipe = 0; pile = 1; deal 1 /; pile = 1");
        doc.says("Throws `IllegalStateException` if there are 5",
                "4x pile; pile ! IllegalState; card 1 = 1; pile ! IllegalState; add = 0; of 0 p = 5; pile = 1",
                "card 1; pile; card 2; pile; card 3; pile; card 4; pile; pile ! IllegalState; card 11 = 1",
                "12x card 1; 4x pile; pile ! IllegalState; wipe = 12");
    }

    private void move() {
        promise("4: move");
        doc.says("Types a move.",
                "players 1; deal 2 1 /; lend 0 0; move 0 9; move 0 9; attempt 0 0 = b; key 0 = 9 9",
                "move 0 1; deal 2 1 /; wipe = 0");
        doc.says("where it goes, 9 for a stack",
                "move 0 9 = 1; move 4 9 = 2; move 0 4 = 3; move 4 0 = 4");
        doc.says("Returns how many moves are typed.",
                "move 0 1 = 1; move 0 1 = 2; card 1; move 1 0 = 3; wipe = 4; move 0 1 = 1",
                "players 1; deal 1 /; lend 0 0; move 0 9 = 1; attempt 0 0; move 0 9 = 1");
        doc.says("Throws `IllegalArgumentException` if there can be no such pile, or both are the same",
                "move -1 0 ! IllegalArgument; move 5 0 ! IllegalArgument; move 9 0 ! IllegalArgument; move 9 9 ! IllegalArgument",
                "move 0 -1 ! IllegalArgument; move 0 5 ! IllegalArgument; move 0 8 ! IllegalArgument; move 0 10 ! IllegalArgument",
                "move 0 0 ! IllegalArgument; move 1 1 ! IllegalArgument; move 4 4 ! IllegalArgument; move 5 5 ! IllegalArgument",
                "move -1 9 ! IllegalArgument; move 5 9 ! IllegalArgument; move 9 1 ! IllegalArgument; move -1 -1 ! IllegalArgument",
                "move min 0 ! IllegalArgument; move max 9 ! IllegalArgument; move 0 min ! IllegalArgument; move 0 max ! IllegalArgument",
                "move 0 1 = 1; move 1 0 = 2; move 3 4 = 3; move 4 3 = 4; move 0 4 = 5");
        doc.says("Throws `IllegalStateException` if there are 40",
                "39x move 0 1; move 4 9 = 40; move 0 1 ! IllegalState; move 0 9 ! IllegalState; wipe = 40; move 0 1 = 1",
                "players 1; deal 1 /; lend 0 0; 40x move 0 9; move 0 9 ! IllegalState; attempt 0 0 = x; reasons = t1 m9 e0; move 0 9 = 1");
    }

    private void wipe() {
        promise("5: wipe");
        doc.says("Empties piles and moves that are typed; the pile 0 is told then.",
                "type 1 2 / 3; go 1; wipe; card 4 = 1; wipe; pile = 1; pile = 2; wipe; pile = 1",
                "type 1 2 / 3; wipe; add ! UnsupportedOperation; type 1 /; add = 0; cards 0 = 1 /",
                "players 1; deal 2 1 /; lend 0 0; go 1; wipe; attempt 0 0 9 9 = b",
                "4x pile; wipe; 4x pile; pile ! IllegalState");
        doc.says("Returns how many cards and moves there were.",
                "wipe = 0; type 1 2 / 3; go 1 9; wipe = 5; wipe = 0",
                "2x pile; wipe = 0; card 1; wipe = 1; go 9; wipe = 1",
                "12x card 1; 40x move 0 1; wipe = 52; wipe = 0");
    }

    // ---- Entries

    private void add() {
        promise("6: add");
        doc.says("Adds the deal of the piles that are typed, as an open entry, also if there is a like one; nothing is typed then.",
                "type 2 1 / 12 11; add = 0; entries = 1; state 0 = o; of 0 c = 1; cards 0 = 2 1 / 12 11",
                "deal 1 /; solve 0 9; deal 1 / = 1; deal 11 / = 2; state 1 = o; state 2 = o; entries = 3; areLike 0 2 = true; key 1 =",
                "type 1 /; go 9 9; add = 0; wipe = 0; card 4 = 1; pile = 1; move 0 9 = 1",
                "type 1 /; add = 0; add ! UnsupportedOperation; pile = 1");
        doc.says("Returns the number of the entry.",
                "deal 1 / = 0; deal 1 / = 1; deal 1 / = 2; solve 0 9; solve 1 9; deal 1 / = 2");
        doc.says("Throws `UnsupportedOperationException` if it is no deal",
                "add ! UnsupportedOperation; pile; add ! UnsupportedOperation; card 2; add ! UnsupportedOperation; card 1; add = 0; "
                        + "cards 0 = / 2 1",
                "type 1; go 9; add ! UnsupportedOperation; move 0 9 = 2; pile; add = 0",
                "type 1 2 / 12; add ! UnsupportedOperation; entries = 0; wipe = 3");
        doc.says("Throws `IllegalStateException` if there are 12",
                "11x deal 1 /; deal 1 / = 11; type 2 1 /; go 9 9; add ! IllegalState; entries = 12; wipe = 4",
                "12x deal 1 /; type 2 1 /; add ! IllegalState; solve 11 9; solve 10 9; add = 11; cards 11 = 2 1 /");
    }

    private void copies() {
        promise("7: copies");
        doc.says("Adds copies to an entry.",
                "deal 1 /; deal 1 /; copies 1 2; of 0 c = 1; of 1 c = 3",
                "players 2; deal 1 /; lend 0 0; copies 0 1; of 0 l = 1; lend 1 0 = 0");
        doc.says("how many, 1 to 3", "deal 1 /; copies 0 1 = 2; copies 0 2 = 4; copies 0 3 = 7");
        doc.says("Returns how many copies it has.",
                "deal 1 /; copies 0 3 = 4; copies 0 1 = 5",
                "players 2; deal 1 /; lend 0 0; await 1 0; copies 0 2 = 3; of 0 l = 2");
        doc.says("Throws `IndexOutOfBoundsException` if there is no such entry",
                "copies 0 1 ! IndexOutOfBounds; deal 1 /; copies 1 1 ! IndexOutOfBounds; copies -1 1 ! IndexOutOfBounds; "
                        + "copies min 1 ! IndexOutOfBounds; copies max 1 ! IndexOutOfBounds",
                "2x deal 1 /; solve 0 9; solve 1 9; copies 1 1 ! IndexOutOfBounds; copies 0 1 = 3");
        doc.says("Throws `IllegalArgumentException` if it is out of range",
                "deal 1 /; copies 0 0 ! IllegalArgument; copies 0 4 ! IllegalArgument; copies 0 -1 ! IllegalArgument; "
                        + "copies 0 min ! IllegalArgument; copies 0 max ! IllegalArgument; of 0 c = 1");
        doc.says("Throws `IllegalStateException` if it would have more than 9",
                "deal 1 /; 2x copies 0 3; copies 0 3 ! IllegalState; of 0 c = 7; copies 0 2 = 9; copies 0 1 ! IllegalState; of 0 c = 9",
                "deal 1 /; 2x copies 0 3; copies 0 1 = 8; copies 0 2 ! IllegalState; copies 0 1 = 9",
                "2x deal 1 /; 2x copies 0 3; copies 1 2; solve 0 9; solve 1 9; of 0 c = 10; copies 0 1 ! IllegalState");
    }

    private void entries() {
        promise("8: entries");
        doc.says("Returns how many entries there are.",
                "entries = 0; deal 1 /; entries = 1; deal 1 2 / 11 12; solve 1 9; entries = 2; deal 1 /; solve 0 9; solve 2 9; entries = 2");
        doc.says("Returns how many.", "12x deal 1 /; entries = 12; type 1 /; add ! IllegalState; entries = 12");
    }

    private void of() {
        promise("9: of");
        doc.says("Returns something of an entry.", "deal 1 /; deal 11 2 1 12 / /; of 0 p = 2; of 1 p = 3; of 0 r = 1; of 1 r = 2");
        doc.says("'p' how many piles,", "deal / 1; deal 1 / / / /; of 0 p = 2; of 1 p = 5");
        doc.says("'s' how many suits,", "deal 21 /; deal 21 1 /; deal 1 / 11 / 21; of 0 s = 1; of 1 s = 2; of 2 s = 3");
        doc.says("'r' how many ranks,", "deal 11 /; deal 1 2 3 4 /; deal 1 2 / 22 21; of 0 r = 1; of 1 r = 4; of 2 r = 2");
        doc.says("'c' how many copies,", "deal 1 /; of 0 c = 1; copies 0 3; of 0 c = 4");
        doc.says("'l' how many of these are lent,",
                "players 2; deal 1 /; copies 0 2; of 0 l = 0; lend 0 0; of 0 l = 1; lend 1 0; of 0 l = 2; giveBack 0 0; of 0 l = 1; of 0 c = 3");
        doc.says("'w' how many wait,",
                "players 3; deal 1 /; of 0 w = 0; lend 0 0; await 1 0; await 2 0; of 0 w = 2; giveBack 0 0; of 0 w = 1; leave 2 0; of 0 w = 0");
        doc.says("'k' the moves of its key, 0 without one",
                "deal 1 2 / 11 12; deal 1 2 /; of 0 k = 0; of 1 k = 0; solve 0 9; solve 1 9; of 0 k = 0; of 1 k = 3");
        doc.says("Returns the number.", "deal 3 2 1 / / 11 12 13; of 0 p = 3; of 0 s = 2; of 0 r = 3; of 0 c = 1; of 0 l = 0; of 0 w = 0");
        doc.says("Throws `IndexOutOfBoundsException` if there is no such entry",
                "of 0 p ! IndexOutOfBounds; deal 1 /; of 1 p ! IndexOutOfBounds; of -1 c ! IndexOutOfBounds; of min k ! IndexOutOfBounds; "
                        + "of max w ! IndexOutOfBounds");
        doc.says("Throws `IllegalArgumentException` if there is no such thing",
                "deal 1 /; of 0 a ! IllegalArgument; of 0 P ! IllegalArgument; of 0 #0 ! IllegalArgument; of 0 #65535 ! IllegalArgument; "
                        + "of 0 #368 ! IllegalArgument; of 0 o ! IllegalArgument; of 0 d ! IllegalArgument; of 0 #113 ! IllegalArgument");
    }

    private void state() {
        promise("10: state");
        doc.says("Returns the state of an entry.", "deal 1 /; deal 1 2 /; solve 1 9; state 0 = o; state 1 = s");
        doc.says("Returns 'o', 'd' or 's'.", "deal 1 2 / 11 12; state 0 = o; solve 0 1; state 0 = d; deal 1 /; solve 1 1; state 1 = s");
        doc.says("Throws `IndexOutOfBoundsException` if there is no such entry",
                "state 0 ! IndexOutOfBounds; deal 1 /; state 1 ! IndexOutOfBounds; state -1 ! IndexOutOfBounds; state min ! IndexOutOfBounds; "
                        + "state max ! IndexOutOfBounds; state 0 = o");
    }

    private void cardOf() {
        promise("11: cardOf");
        doc.says("Returns a card of the deal of an entry.",
                "deal 2 21 / / 22 1; deal 1 /; cardOf 0 0 1 = 21; cardOf 0 2 0 = 22; cardOf 1 0 0 = 1",
                "deal 2 1 /; solve 0 9 = s; cardOf 0 0 0 = 2; cardOf 0 0 1 = 1");
        doc.says("the index, from 0 below", "deal 2 21 / / 22 1; cardOf 0 0 0 = 2; cardOf 0 0 1 = 21; cardOf 0 2 1 = 1");
        doc.says("Returns the card.",
                "deal 1 2 3 4 11 12 13 14 21 22 23 24 / / / /; cardOf 0 0 0 = 1; cardOf 0 0 7 = 14; cardOf 0 0 11 = 24",
                "deal / / / / 24 14 4 23 13 3 22 12 2 21 11 1; cardOf 0 4 0 = 24; cardOf 0 4 11 = 1");
        doc.says("Throws `IndexOutOfBoundsException` if there is no such entry",
                "cardOf 0 0 0 ! IndexOutOfBounds; deal 1 /; cardOf 1 0 0 ! IndexOutOfBounds; cardOf -1 0 0 ! IndexOutOfBounds; "
                        + "cardOf min 0 0 ! IndexOutOfBounds; cardOf max 0 0 ! IndexOutOfBounds");
        doc.says("Throws `NoSuchElementException` if there is no such card",
                "deal 2 21 / / 22 1; cardOf 0 0 2 ! NoSuchElement; cardOf 0 0 -1 ! NoSuchElement; cardOf 0 1 0 ! NoSuchElement; "
                        + "cardOf 0 1 -1 ! NoSuchElement; cardOf 0 2 2 ! NoSuchElement",
                "deal 1 /; cardOf 0 2 0 ! NoSuchElement; cardOf 0 -1 0 ! NoSuchElement; cardOf 0 5 0 ! NoSuchElement; "
                        + "cardOf 0 min 0 ! NoSuchElement; cardOf 0 max 0 ! NoSuchElement; cardOf 0 0 min ! NoSuchElement; "
                        + "cardOf 0 0 max ! NoSuchElement",
                "deal 1 2 3 4 11 12 13 14 21 22 23 24 / / / /; cardOf 0 0 12 ! NoSuchElement; cardOf 0 0 16 ! NoSuchElement; "
                        + "cardOf 0 4 0 ! NoSuchElement; cardOf 0 4 15 ! NoSuchElement");
    }

    private void keyOf() {
        promise("12: keyOf");
        doc.says("Returns a move of the key of an entry.", "deal 1 /; deal 1 2 /; solve 0 9; solve 1 9; keyOf 0 0 = 9; keyOf 1 0 = 1");
        doc.says("the index, from 0", "deal 1 2 /; solve 0 9; keyOf 0 0 = 1; keyOf 0 1 = 9; keyOf 0 2 = 19");
        doc.says("Returns the move.",
                "deal / 1 13 24 21 4 22 14 / / 11 23 3 2 12; solve 0 20000 = s; of 0 k = 35; keyOf 0 34 = 39; keyOf 0 35 ! NoSuchElement");
        doc.says("Throws `IndexOutOfBoundsException` if there is no such entry",
                "keyOf 0 0 ! IndexOutOfBounds; deal 1 /; solve 0 9; keyOf 1 0 ! IndexOutOfBounds; keyOf -1 0 ! IndexOutOfBounds; "
                        + "keyOf min 0 ! IndexOutOfBounds; keyOf max 0 ! IndexOutOfBounds");
        doc.says("Throws `NoSuchElementException` if there is no such move",
                "deal 1 2 /; keyOf 0 0 ! NoSuchElement; solve 0 9; keyOf 0 3 ! NoSuchElement; keyOf 0 -1 ! NoSuchElement; "
                        + "keyOf 0 min ! NoSuchElement; keyOf 0 max ! NoSuchElement; keyOf 0 40 ! NoSuchElement",
                "players 1; deal 2 1 /; lend 0 0; attempt 0 0 9 1 19; solve 0 9; keyOf 0 1 = 9; keyOf 0 2 ! NoSuchElement",
                "deal 1 2 / 11 12; solve 0 9 = d; keyOf 0 0 ! NoSuchElement");
    }

    // ---- The solver

    private void solve() {
        promise("13: solve");
        doc.says("Lets the solver work on an entry.",
                "deal 1 /; deal 2 1 /; solve 1 9 = s; state 0 = o; state 1 = s; key 1 = 9 9; taken = 2",
                "players 1; deal 2 1 /; lend 0 0; solve 0 9 = s; points 0 = 20; loans 0 = 1; of 0 l = 1; go 9; wipe = 1");
        doc.says("the budget, 1 to 20000", "deal 1 /; solve 0 1 = s; solve 0 20000 = s",
                // the 20000th position that is taken up finds a solved one, or the 20001st would
                "deal 13 22 / 2 11 12 / 23 3 24 4 / / 1 21 14; solve 0 19999 = o; taken = 19999; state 0 = o; solve 0 20000 = s; "
                        + "taken = 20000; of 0 k = 16; isSound = true",
                "deal 3 2 23 / / 12 / 1 11 4 24 22 21 / 14 13; solve 0 20000 = o; taken = 20000; state 0 = o; key 0 =");
        doc.says("Returns what it found: 's', 'd' or 'o'; an entry that is solved or dead stays so, if it is open.",
                "deal 1 2 /; solve 0 2 = o; state 0 = o; solve 0 3 = s; state 0 = s; solve 0 2 = o; state 0 = s; key 0 = 1 9 19; "
                        + "solve 0 3 = s; key 0 = 1 9 19",
                "deal 12 1 / 11 2 13 3; solve 0 2 = o; solve 0 3 = d; state 0 = d; solve 0 2 = o; state 0 = d; taken = 2; solve 0 3 = d",
                "players 1; deal 2 1 /; lend 0 0; attempt 0 0 9 1 19; solve 0 1 = o; state 0 = s; key 0 = 9 1 19");
        doc.says("Throws `IndexOutOfBoundsException` if there is no such entry",
                "solve 0 9 ! IndexOutOfBounds; deal 1 /; solve 1 9 ! IndexOutOfBounds; solve -1 9 ! IndexOutOfBounds; "
                        + "solve min 9 ! IndexOutOfBounds; solve max 9 ! IndexOutOfBounds; taken = 0");
        doc.says("Throws `IllegalArgumentException` if the budget is out of range",
                "deal 1 /; solve 0 0 ! IllegalArgument; solve 0 -1 ! IllegalArgument; solve 0 20001 ! IllegalArgument; "
                        + "solve 0 min ! IllegalArgument; solve 0 max ! IllegalArgument; state 0 = o; taken = 0");
    }

    private void taken() {
        promise("14: taken");
        doc.says("Returns how many positions the solver took up at last.",
                "deal 2 1 /; solve 0 1 = o; taken = 1; solve 0 9 = s; taken = 2; solve 0 1 = o; taken = 1",
                "deal 12 1 / 11 2 13 3; solve 0 9 = d; taken = 3; deal 1 2 / 11 12; solve 1 9 = d; taken = 1; taken = 1",
                "deal 2 1 /; solve 0 9; solve 0 0 ! IllegalArgument; taken = 2; reach 0 9 = 5; taken = 2",
                "deal 24 1 4 / 14 2 3 / 13 12 23 22 / 21 11 /; solve 0 20000 = o; taken = 20000; solve 0 19999 = o; taken = 19999");
        doc.says("Returns how many, 0 at first.", "taken = 0; deal 1 /; taken = 0; reach 0 9; taken = 0; solve 0 1; taken = 1");
    }

    private void reach() {
        promise("15: reach");
        doc.says("Returns how many positions of a deal can be found, by a budget.",
                "deal 2 1 /; reach 0 9 = 5; deal 1 2 / 11 12; reach 1 9 = 1; deal 12 1 / 11 2 13 3; reach 2 9 = 3",
                "deal 2 1 /; solve 0 9; reach 0 9 = 5; state 0 = s; deal 1 2 /; reach 1 9; state 1 = o; key 1 =");
        doc.says("the budget, 1 to 20000", "deal 1 2 / 11 12; reach 0 1 = 1; reach 0 20000 = 1");
        doc.says("Returns how many, the deal itself counted; solved ones are taken up, too.",
                "deal 1 2 / 11 12; reach 0 1 = 1; deal 1 /; reach 1 3 = 3; deal 1 / 11; reach 2 6 = 6");
        doc.says("Throws `IndexOutOfBoundsException` if there is no such entry",
                "reach 0 9 ! IndexOutOfBounds; deal 1 /; reach 1 9 ! IndexOutOfBounds; reach -1 9 ! IndexOutOfBounds; "
                        + "reach min 9 ! IndexOutOfBounds; reach max 9 ! IndexOutOfBounds");
        doc.says("Throws `IllegalArgumentException` if the budget is out of range",
                "deal 1 /; reach 0 0 ! IllegalArgument; reach 0 -1 ! IllegalArgument; reach 0 20001 ! IllegalArgument; "
                        + "reach 0 min ! IllegalArgument; reach 0 max ! IllegalArgument");
        doc.says("Throws `UnsupportedOperationException` if more would be taken up",
                "deal 2 1 /; reach 0 4 ! UnsupportedOperation; reach 0 1 ! UnsupportedOperation; reach 0 5 = 5; taken = 0",
                "deal 12 1 / 11 2 13 3; reach 0 2 ! UnsupportedOperation; reach 0 3 = 3; state 0 = o",
                "deal 24 1 4 / 14 2 3 / 13 12 23 22 / 21 11 /; reach 0 20000 ! UnsupportedOperation",
                // just as many positions as the largest budget, and one more
                "deal / / 1 21 11 2 23 12 24 / 22 4 13 14 3; reach 0 20000 = 20000; reach 0 19999 ! UnsupportedOperation",
                "deal 24 14 / / 21 11 23 / 22 13 4 12 3 1 2; reach 0 20000 ! UnsupportedOperation");
    }

    private void moves() {
        promise("16: moves");
        doc.says("Returns how many moves can be made at first.",
                "deal 2 1 /; moves 0 = 2; deal 2 1 / 12 11 /; moves 1 = 4; solve 0 9; moves 0 = 2",
                "deal 1 2 / 11 12; moves 0 = 0; deal 1 / / / /; moves 1 = 5; deal 1 / 2; moves 2 = 1; deal 11 1 / 2 12; moves 3 = 2");
        doc.says("Returns how many.",
                "deal 3 13 / 4 14 / 24 23 / 22 12 2 / 11 21 1; moves 0 = 4",
                "deal 1 / 11 / 21 / /; moves 0 = 9");
        doc.says("Throws `IndexOutOfBoundsException` if there is no such entry",
                "moves 0 ! IndexOutOfBounds; deal 1 /; moves 1 ! IndexOutOfBounds; moves -1 ! IndexOutOfBounds; moves min ! IndexOutOfBounds; "
                        + "moves max ! IndexOutOfBounds");
    }

    private void areLike() {
        promise("17: areLike");
        doc.says("Returns whether two deals are like.",
                "deal 1 12 / 11 2; deal 21 2 / 1 22; deal 21 2 / 22 1; areLike 0 1 = true; areLike 1 0 = true; areLike 0 2 = false",
                "deal 1 /; deal 1 /; solve 0 9; areLike 0 1 = true");
        doc.says("another one, or the same", "deal 1 /; deal 1 2 /; areLike 0 0 = true; areLike 1 1 = true; areLike 0 1 = false");
        doc.says("Returns whether they are.", "deal 1 11 21 /; deal 21 11 1 /; deal 21 11 / 1; areLike 0 1 = true; areLike 1 2 = false");
        doc.says("Throws `IndexOutOfBoundsException` if there is no such entry, for either",
                "areLike 0 0 ! IndexOutOfBounds; deal 1 /; areLike 1 0 ! IndexOutOfBounds; areLike 0 1 ! IndexOutOfBounds; "
                        + "areLike -1 0 ! IndexOutOfBounds; areLike 0 -1 ! IndexOutOfBounds; areLike 1 1 ! IndexOutOfBounds; "
                        + "areLike 0 max ! IndexOutOfBounds; areLike min 0 ! IndexOutOfBounds");
    }

    private void find() {
        promise("18: find");
        doc.says("Returns the entry whose key is typed as moves.",
                "deal 2 1 /; deal 1 2 /; solve 0 9; solve 1 9; go 1 9 19; find = 1; find = 1; wipe = 3; go 9 9; find = 0");
        doc.says("Returns the first one of the list.",
                "deal 1 2 /; deal 2 1 /; deal 1 11 /; solve 2 9; go 9 9; find = 2; solve 1 9; find = 1; listed 0 = 1; listed 1 = 2");
        doc.says("Throws `NoSuchElementException` if there is none",
                "find ! NoSuchElement; deal 2 1 /; find ! NoSuchElement; solve 0 9; find ! NoSuchElement; go 9; find ! NoSuchElement; go 9; "
                        + "find = 0; go 9; find ! NoSuchElement",
                "deal 1 2 / 11 12; solve 0 9 = d; find ! NoSuchElement",
                "deal 2 1 /; solve 0 9; go 9 19; find ! NoSuchElement; wipe; go 1 9; find ! NoSuchElement",
                "players 1; deal 2 1 /; lend 0 0; attempt 0 0 9 1 19; solve 0 9; go 9 1 19; find ! NoSuchElement");
    }

    private void listed() {
        promise("19: listed");
        doc.says("Returns the entry at a place of the list.",
                "deal 1 2 / 11 12; deal 1 2 /; deal 2 1 /; solve 0 9; solve 1 9; listed 0 = 1; listed 1 = 2; listed 2 = 0; solve 2 9; "
                        + "listed 0 = 2; listed 1 = 1");
        doc.says("the place, from 0", "deal 1 /; listed 0 = 0; listed 1 ! NoSuchElement");
        doc.says("Returns the entry.", "12x deal 1 /; listed 0 = 0; listed 11 = 11; solve 11 9; listed 0 = 11; listed 11 = 10");
        doc.says("Throws `NoSuchElementException` if there is no such place",
                "listed 0 ! NoSuchElement; listed -1 ! NoSuchElement; deal 1 /; listed 1 ! NoSuchElement; listed -1 ! NoSuchElement; "
                        + "listed min ! NoSuchElement; listed max ! NoSuchElement",
                "2x deal 1 /; solve 0 9; solve 1 9; listed 1 ! NoSuchElement; listed 0 = 0",
                "12x deal 1 /; listed 12 ! NoSuchElement");
    }

    // ---- Players

    private void player() {
        promise("20: player");
        doc.says("Adds a player.", "player; points 0 = 20; loans 0 = 0; points 1 ! IndexOutOfBounds; player; points 1 = 20; meanPoints = 20");
        doc.says("Returns the number of the player.", "player = 0; player = 1; player = 2; player = 3; player = 4; player = 5");
        doc.says("Throws `IllegalStateException` if there are 6", "players 6; player ! IllegalState; points 6 ! IndexOutOfBounds; meanPoints = 20");
    }

    private void points() {
        promise("21: points");
        doc.says("Returns the points of a player.", "players 2; deal 1 /; points 1 = 20; lend 1 0; attempt 1 0 9; points 1 = 30; points 0 = 20");
        doc.says("Returns the points, perhaps below 0.",
                "players 1; deal 1 /; fails 0 0 4; points 0 = 0; fails 0 0 1; points 0 = -5",
                "players 1; deal 1 /; lend 0 0; 10x days 30; points 0 = -273");
        doc.says("Throws `IndexOutOfBoundsException` if there is no such player",
                "points 0 ! IndexOutOfBounds; player; points 1 ! IndexOutOfBounds; points -1 ! IndexOutOfBounds; points min ! IndexOutOfBounds; "
                        + "points max ! IndexOutOfBounds; deal 1 /; deal 1 /; points 1 ! IndexOutOfBounds");
    }

    private void loans() {
        promise("22: loans");
        doc.says("Returns how many loans a player has.",
                "players 2; 3x deal 1 /; loans 0 = 0; lend 0 0; loans 0 = 1; lend 0 1; lend 0 2; loans 0 = 3; loans 1 = 0; giveBack 0 1; "
                        + "loans 0 = 2; attempt 0 0; loans 0 = 1");
        doc.says("Returns how many.",
                "players 2; deal 1 /; lend 0 0; await 1 0; loans 1 = 0; giveBack 0 0; loans 1 = 1; loans 0 = 0",
                "players 1; 2x deal 1 /; lend 0 0; lend 0 1; solve 0 9; solve 1 9; loans 0 = 2");
        doc.says("Throws `IndexOutOfBoundsException` if there is no such player",
                "loans 0 ! IndexOutOfBounds; player; loans 1 ! IndexOutOfBounds; loans -1 ! IndexOutOfBounds; loans min ! IndexOutOfBounds; "
                        + "loans max ! IndexOutOfBounds");
    }

    private void lend() {
        promise("23: lend");
        doc.says("Lends a copy.", "players 1; deal 1 /; lend 0 0; of 0 l = 1; of 0 c = 1; loans 0 = 1; due 0 0 = 7; points 0 = 20");
        doc.says("Returns how many copies are left.",
                "players 3; deal 1 /; copies 0 2; lend 0 0 = 2; lend 1 0 = 1; lend 2 0 = 0; giveBack 1 0; lend 1 0 = 0");
        doc.says("Throws `IndexOutOfBoundsException` if there is no such player, or entry",
                "lend 0 0 ! IndexOutOfBounds; players 1; lend 0 0 ! IndexOutOfBounds; deal 1 /; lend 1 0 ! IndexOutOfBounds; "
                        + "lend 0 1 ! IndexOutOfBounds; lend -1 0 ! IndexOutOfBounds; lend 0 -1 ! IndexOutOfBounds; "
                        + "lend min 0 ! IndexOutOfBounds; lend 0 max ! IndexOutOfBounds; lend 0 0 = 0",
                "deal 1 /; lend 0 0 ! IndexOutOfBounds");
        doc.says("Throws `NoSuchElementException` if all copies are lent",
                "players 2; deal 1 /; lend 0 0; lend 1 0 ! NoSuchElement; lend 0 0 ! NoSuchElement; loans 1 = 0; copies 0 1; lend 1 0 = 0",
                "players 2; deal 1 /; lend 0 0; await 1 0; lend 1 0 ! NoSuchElement");
        doc.says("Throws `UnsupportedOperationException` if it cannot be lent to this player",
                "players 1; 4x deal 1 /; lend 0 0; lend 0 1; lend 0 2; lend 0 3 ! UnsupportedOperation; of 3 l = 0",
                "players 1; deal 1 /; fails 0 0 5; lend 0 0 ! UnsupportedOperation; loans 0 = 0",
                "players 1; deal 1 /; copies 0 1; lend 0 0; lend 0 0 ! UnsupportedOperation; of 0 l = 1",
                "players 2; deal 1 /; fails 0 0 5; lend 1 0; await 0 0; giveBack 1 0; of 0 l = 0; lend 0 0 ! UnsupportedOperation; of 0 w = 1",
                // the second one who waits, who could be lent it else
                "players 3; 4x deal 1 /; fails 2 3 5; lend 1 3; lend 0 0; lend 0 1; lend 0 2; await 2 3; await 0 3; giveBack 1 3; giveBack 0 0; "
                        + "of 3 l = 0; of 3 w = 2; lend 0 3 ! UnsupportedOperation");
    }

    private void await() {
        promise("24: await");
        doc.says("Lets a player wait for a copy.",
                "players 2; deal 1 /; lend 0 0; await 1 0; of 0 w = 1; firstWaiting 0 = 1; loans 1 = 0; points 1 = 20");
        doc.says("Returns how many wait.",
                "players 6; deal 1 /; lend 0 0; await 1 0 = 1; await 2 0 = 2; await 3 0 = 3; await 4 0 = 4; await 5 0 = 5",
                "players 2; 2x deal 1 /; lend 0 0; lend 0 1; await 1 0 = 1; await 1 1 = 1");
        doc.says("Throws `IndexOutOfBoundsException` if there is no such player, or entry",
                "await 0 0 ! IndexOutOfBounds; players 2; await 0 0 ! IndexOutOfBounds; deal 1 /; lend 0 0; await 2 0 ! IndexOutOfBounds; "
                        + "await 1 1 ! IndexOutOfBounds; await -1 0 ! IndexOutOfBounds; await 1 -1 ! IndexOutOfBounds; "
                        + "await max 0 ! IndexOutOfBounds; await 1 min ! IndexOutOfBounds; await 1 0 = 1",
                "deal 1 /; await 0 0 ! IndexOutOfBounds");
        doc.says("Throws `UnsupportedOperationException` if a copy is not lent, or the player has one, or waits for one",
                "players 2; deal 1 /; await 0 0 ! UnsupportedOperation; copies 0 1; lend 0 0; await 1 0 ! UnsupportedOperation; of 0 w = 0",
                "players 1; deal 1 /; lend 0 0; await 0 0 ! UnsupportedOperation; of 0 w = 0",
                "players 2; deal 1 /; lend 0 0; await 1 0 = 1; await 1 0 ! UnsupportedOperation; of 0 w = 1; leave 1 0; await 1 0 = 1",
                // neither the first one lent nor the first one who waits
                "players 4; 2x deal 1 /; copies 1 1; lend 0 0; lend 2 1; lend 1 1; await 1 1 ! UnsupportedOperation; await 0 1; await 3 1; "
                        + "await 3 1 ! UnsupportedOperation; of 1 w = 2",
                "players 3; deal 1 /; fails 0 0 5; lend 1 0; await 0 0 = 1; giveBack 1 0; await 2 0 ! UnsupportedOperation; "
                        + "await 0 0 ! UnsupportedOperation");
    }

    private void leave() {
        promise("25: leave");
        doc.says("Lets a player wait no more.",
                "players 3; deal 1 /; lend 0 0; await 1 0; await 2 0; leave 1 0; firstWaiting 0 = 2; giveBack 0 0; loans 1 = 0; loans 2 = 1; "
                        + "points 1 = 20",
                "players 2; 2x deal 1 /; lend 0 0; lend 0 1; await 1 0; await 1 1; leave 1 0; of 0 w = 0; of 1 w = 1");
        doc.says("Returns how many wait still.", "players 4; deal 1 /; lend 0 0; await 1 0; await 2 0; await 3 0; leave 2 0 = 2; leave 3 0 = 1; "
                + "leave 1 0 = 0");
        doc.says("Throws `IndexOutOfBoundsException` if there is no such player, or entry",
                "leave 0 0 ! IndexOutOfBounds; players 2; leave 0 0 ! IndexOutOfBounds; deal 1 /; lend 0 0; await 1 0; "
                        + "leave 2 0 ! IndexOutOfBounds; leave 1 1 ! IndexOutOfBounds; leave -1 0 ! IndexOutOfBounds; "
                        + "leave 1 -1 ! IndexOutOfBounds; leave max 0 ! IndexOutOfBounds; leave 1 min ! IndexOutOfBounds; leave 1 0 = 0",
                "deal 1 /; leave 0 0 ! IndexOutOfBounds");
        doc.says("Throws `NoSuchElementException` if the player does not wait",
                "players 2; 2x deal 1 /; leave 0 0 ! NoSuchElement; lend 0 0; leave 0 0 ! NoSuchElement; await 1 0; leave 0 0 ! NoSuchElement; "
                        + "leave 1 1 ! NoSuchElement; leave 1 0 = 0; leave 1 0 ! NoSuchElement",
                "players 2; deal 1 /; lend 0 0; await 1 0; giveBack 0 0; leave 1 0 ! NoSuchElement; loans 1 = 1");
    }

    private void attempt() {
        promise("26: attempt");
        doc.says("Tries the moves that are typed; none are typed then.",
                "players 1; deal 2 1 /; type 1 2; lend 0 0; go 9 9; attempt 0 0 = b; move 0 9 = 1; wipe = 3",
                "players 1; deal 2 1 /; lend 0 0; go 9; attempt 0 0 = x; wipe = 0; lend 0 0; attempt 0 0 9 9 = b; wipe = 0; lend 0 0; "
                        + "attempt 0 0 9 9 = e; wipe = 0",
                "players 1; deal 2 1 /; go 9 9; lend 0 0; attempt 0 0 = b",
                "players 1; deal 2 1 /; lend 0 0; type 1; attempt 0 0 9 9 = b; card 2 = 2; pile = 1; add = 1; cards 1 = 1 2 /");
        doc.says("Returns 'b' a better solution, 'e' another one, 'x' none.",
                "players 1; deal 2 1 /; lend 0 0; attempt 0 0 9 1 19 = b; lend 0 0; attempt 0 0 9 1 19 = e; lend 0 0; attempt 0 0 9 1 = x; lend 0 0; "
                        + "attempt 0 0 1 19 9 = b; lend 0 0; attempt 0 0 = x",
                "players 1; deal 1 2 / 11 12; solve 0 9 = d; lend 0 0; attempt 0 0 9 = x; state 0 = d; reasons = t0 m9 s2");
        doc.says("Throws `IndexOutOfBoundsException` if there is no such player, or entry",
                "attempt 0 0 ! IndexOutOfBounds; players 1; attempt 0 0 ! IndexOutOfBounds; deal 2 1 /; lend 0 0; go 9 9; "
                        + "attempt 1 0 ! IndexOutOfBounds; attempt 0 1 ! IndexOutOfBounds; attempt -1 0 ! IndexOutOfBounds; "
                        + "attempt 0 -1 ! IndexOutOfBounds; attempt min 0 ! IndexOutOfBounds; attempt 0 max ! IndexOutOfBounds; attempt 0 0 = b",
                "deal 1 /; attempt 0 0 ! IndexOutOfBounds");
        doc.says("Throws `NoSuchElementException` if the player has no copy of it",
                "players 2; 2x deal 2 1 /; go 9 9; attempt 0 0 ! NoSuchElement; lend 0 0; attempt 1 0 ! NoSuchElement; "
                        + "attempt 0 1 ! NoSuchElement; wipe = 2; points 0 = 20; attempt 0 0 = x; attempt 0 0 ! NoSuchElement",
                "players 2; deal 2 1 /; lend 0 0; await 1 0; attempt 1 0 ! NoSuchElement; why 0 ! NoSuchElement");
    }

    private void giveBack() {
        promise("27: giveBack");
        doc.says("Gives a copy back without a try.",
                "players 1; deal 2 1 /; lend 0 0; go 9 9; giveBack 0 0; of 0 l = 0; of 0 c = 1; loans 0 = 0; state 0 = o; wipe = 2; why 0 ! NoSuchElement",
                "players 2; deal 2 1 /; lend 0 0; await 1 0; giveBack 0 0; loans 1 = 1; due 1 0 = 7");
        doc.says("Returns the points of the player then.",
                "players 1; deal 1 /; lend 0 0; giveBack 0 0 = 12; lend 0 0; days 9; giveBack 0 0 = 2; lend 0 0; giveBack 0 0 = -6; points 0 = -6");
        doc.says("Throws `IndexOutOfBoundsException` if there is no such player, or entry",
                "giveBack 0 0 ! IndexOutOfBounds; players 1; giveBack 0 0 ! IndexOutOfBounds; deal 1 /; lend 0 0; giveBack 1 0 ! IndexOutOfBounds; "
                        + "giveBack 0 1 ! IndexOutOfBounds; giveBack -1 0 ! IndexOutOfBounds; giveBack 0 -1 ! IndexOutOfBounds; "
                        + "giveBack max 0 ! IndexOutOfBounds; giveBack 0 min ! IndexOutOfBounds; giveBack 0 0 = 12",
                "deal 1 /; giveBack 0 0 ! IndexOutOfBounds");
        doc.says("Throws `NoSuchElementException` if the player has no copy of it",
                "players 2; 2x deal 1 /; giveBack 0 0 ! NoSuchElement; lend 0 0; giveBack 1 0 ! NoSuchElement; giveBack 0 1 ! NoSuchElement; "
                        + "giveBack 0 0 = 12; giveBack 0 0 ! NoSuchElement; points 0 = 12",
                "players 2; deal 1 /; lend 0 0; await 1 0; giveBack 1 0 ! NoSuchElement; points 1 = 20; of 0 w = 1");
    }

    private void due() {
        promise("28: due");
        doc.says("Returns for how many days a copy is still lent.",
                "players 2; 2x deal 1 /; lend 0 0; days 3; lend 1 1; due 0 0 = 4; due 1 1 = 7; days 1; due 0 0 = 3; due 1 1 = 6",
                "players 1; 2x deal 1 /; lend 0 1; days 2; lend 0 0; solve 0 9; solve 1 9; due 0 0 = 5");
        doc.says("Returns how many, below 0 for days behind.",
                "players 1; deal 1 /; lend 0 0; due 0 0 = 7; days 7; due 0 0 = 0; days 1; due 0 0 = -1; days 30; due 0 0 = -31");
        doc.says("Throws `IndexOutOfBoundsException` if there is no such player, or entry",
                "due 0 0 ! IndexOutOfBounds; players 1; due 0 0 ! IndexOutOfBounds; deal 1 /; lend 0 0; due 1 0 ! IndexOutOfBounds; "
                        + "due 0 1 ! IndexOutOfBounds; due -1 0 ! IndexOutOfBounds; due 0 -1 ! IndexOutOfBounds; due max 0 ! IndexOutOfBounds; "
                        + "due 0 min ! IndexOutOfBounds; due 0 0 = 7",
                "deal 1 /; due 0 0 ! IndexOutOfBounds");
        doc.says("Throws `NoSuchElementException` if the player has no copy of it",
                "players 2; 2x deal 1 /; due 0 0 ! NoSuchElement; lend 0 0; due 1 0 ! NoSuchElement; due 0 1 ! NoSuchElement; giveBack 0 0; "
                        + "due 0 0 ! NoSuchElement",
                "players 2; deal 1 /; lend 0 0; await 1 0; due 1 0 ! NoSuchElement");
    }

    private void days() {
        promise("29: days");
        doc.says("Lets days go by.",
                "players 2; deal 1 /; days 5; lend 0 0; days 7; points 0 = 20; days 30; points 0 = -10; points 1 = 20; due 0 0 = -30");
        doc.says("1 to 30", "days 1 = 1; days 30 = 31; days 29 = 60");
        doc.says("Returns the day then.", "days 1 = 1; days 2 = 3; 20x days 30; days 1 = 604");
        doc.says("Throws `IllegalArgumentException` if it is out of range",
                "players 1; deal 1 /; lend 0 0; days 7; days 0 ! IllegalArgument; days 31 ! IllegalArgument; days -1 ! IllegalArgument; "
                        + "days min ! IllegalArgument; days max ! IllegalArgument; points 0 = 20; due 0 0 = 0; days 1 = 8");
    }

    private void firstWaiting() {
        promise("30: firstWaiting");
        doc.says("Returns who is first of those who wait and could be lent a copy now, if one was there.",
                "players 4; 2x deal 1 /; lend 0 0; await 3 0; await 2 0; firstWaiting 0 = 3; fails 3 1 1; firstWaiting 0 = 2; lend 2 1; "
                        + "giveBack 2 1; firstWaiting 0 = 3; lend 3 1; attempt 3 1 9 = b; firstWaiting 0 = 3; of 0 w = 2",
                "players 3; 5x deal 1 /; lend 0 0; await 1 0; await 2 0; lend 1 1; lend 1 2; firstWaiting 0 = 1; lend 1 3; firstWaiting 0 = 2; "
                        + "giveBack 1 1; leave 2 0; firstWaiting 0 = 1",
                // a copy is there, and who waits cannot be lent it yet, or again
                "players 2; 2x deal 1 /; fails 1 0 5; lend 0 0; await 1 0; giveBack 0 0; firstWaiting 0 ! NoSuchElement");
        doc.says("Returns the player.", "players 6; deal 1 /; lend 0 0; await 5 0; firstWaiting 0 = 5");
        doc.says("Throws `IndexOutOfBoundsException` if there is no such entry",
                "firstWaiting 0 ! IndexOutOfBounds; players 2; deal 1 /; lend 0 0; await 1 0; firstWaiting 1 ! IndexOutOfBounds; "
                        + "firstWaiting -1 ! IndexOutOfBounds; firstWaiting min ! IndexOutOfBounds; firstWaiting max ! IndexOutOfBounds");
        doc.says("Throws `NoSuchElementException` if there is none",
                "players 2; 2x deal 1 /; firstWaiting 0 ! NoSuchElement; lend 0 0; firstWaiting 0 ! NoSuchElement; await 1 0; "
                        + "firstWaiting 1 ! NoSuchElement; leave 1 0; firstWaiting 0 ! NoSuchElement",
                "players 2; 2x deal 1 /; fails 1 1 5; lend 0 0; await 1 0; firstWaiting 0 ! NoSuchElement",
                "players 2; 2x deal 1 /; lend 0 0; lend 1 1; await 0 1; solve 0 9; solve 1 9; of 0 w = 1; firstWaiting 0 ! NoSuchElement");
    }

    // ---- Reasons

    private void why() {
        promise("31: why");
        doc.says("Tells why the last try that was no solution failed, as causes.",
                "players 1; deal 2 1 /; lend 0 0; attempt 0 0 9 9 9 = x; why 0 = t; why 1 = m; why 2 = e; lend 0 0; attempt 0 0 1 9 = x; "
                        + "why 2 = s; lend 0 0; attempt 0 0 1 10 2 = x; why 2 = p; lend 0 0; attempt 0 0 9 9 = b; why 2 = p",
                "players 2; 2x deal 2 1 /; lend 0 0; lend 1 1; attempt 0 0 9 9 9 = x; attempt 1 1 9 = x; reasons = t1");
        doc.says("the depth, 0 for the first", "players 1; deal 1 2 /; lend 0 0; attempt 0 0 9 = x; why 0 = t; why 1 = m; why 2 = s");
        doc.says("Returns the letter.", "players 1; deal 1 2 /; lend 0 0; attempt 0 0 = x; why 0 = t");
        doc.says("Throws `NoSuchElementException` if none failed, or there is no cause so deep",
                "why 0 ! NoSuchElement; players 1; deal 1 2 /; lend 0 0; attempt 0 0 1 9 19 = b; why 0 ! NoSuchElement; lend 0 0; "
                        + "giveBack 0 0; why 0 ! NoSuchElement",
                "players 1; deal 1 2 /; lend 0 0; attempt 0 0 = x; why 1 ! NoSuchElement; why -1 ! NoSuchElement; lend 0 0; attempt 0 0 9 = x; "
                        + "why 3 ! NoSuchElement; why -1 ! NoSuchElement; why min ! NoSuchElement; why max ! NoSuchElement");
    }

    private void whyNumber() {
        promise("32: whyNumber");
        doc.says("Tells the number of this cause.",
                "players 1; deal 11 12 / 1 2; lend 0 0; attempt 0 0 9 = x; whyNumber 0 = 0; whyNumber 1 = 9; whyNumber 2 = 12; lend 0 0; "
                        + "attempt 0 0 14 = x; whyNumber 1 = 14; whyNumber 2 = 4; lend 0 0; attempt 0 0 39 = x; whyNumber 2 = 3");
        doc.says("the depth, 0 for the first",
                "players 1; deal 2 1 /; lend 0 0; attempt 0 0 9 9 9 = x; whyNumber 0 = 2; whyNumber 1 = 9; whyNumber 2 = 0");
        doc.says("Returns the number.",
                "players 1; deal 2 1 /; lend 0 0; go 9; 19x go 1 10; go 1; attempt 0 0 = x; whyNumber 0 = 40; whyNumber 1 ! NoSuchElement");
        doc.says("Throws `NoSuchElementException` if none failed, or there is no cause so deep",
                "whyNumber 0 ! NoSuchElement; players 1; deal 1 2 /; lend 0 0; attempt 0 0 1 9 19 = b; whyNumber 0 ! NoSuchElement; lend 0 0; "
                        + "giveBack 0 0; whyNumber 0 ! NoSuchElement",
                "players 1; deal 1 2 /; lend 0 0; attempt 0 0 = x; whyNumber 1 ! NoSuchElement; whyNumber -1 ! NoSuchElement; lend 0 0; "
                        + "attempt 0 0 9 = x; whyNumber 3 ! NoSuchElement; whyNumber min ! NoSuchElement; whyNumber max ! NoSuchElement");
    }

    // ---- What is told of all

    private void label() {
        promise("33: label");
        doc.says("Returns a sign of the label of an entry: its state, then its number, ':', how many moves its key has, or '-',",
                "deal 1 2 / 11 12; deal 2 1 /; label 0 = o0:-; solve 0 9; solve 1 9; label 0 = d0:-; label 1 = s1:2",
                "12x deal 1 /; label 9 = o9:-; label 10 = o10:-; solve 11 9; label 11 = s11:1; label 11 0 = s; label 11 2 = 1; label 11 4 = 1",
                "players 1; deal 2 1 /; lend 0 0; go 9; 19x go 1 10; attempt 0 0 9; label 0 = s0:40; label 0 4 = 0",
                "deal / 1 13 24 21 4 22 14 / / 11 23 3 2 12; solve 0 20000; label 0 = s0:35");
        doc.says("and, if it is lent, '*' for each copy that is lent.",
                "players 3; deal 1 /; copies 0 3; label 0 = o0:-; lend 0 0; label 0 = o0:-*; lend 1 0; lend 2 0; label 0 = o0:-***; "
                        + "attempt 0 0 9; label 0 = s0:1**; giveBack 1 0; giveBack 2 0; label 0 = s0:1");
        doc.says("the index, from 0", "deal 1 /; solve 0 9; label 0 0 = s; label 0 1 = 0; label 0 2 = :; label 0 3 = 1");
        doc.says("Returns the sign.", "players 1; deal 1 /; lend 0 0; label 0 3 = -; label 0 4 = *");
        doc.says("Throws `IndexOutOfBoundsException` if there is no such entry",
                "label 0 0 ! IndexOutOfBounds; deal 1 /; label 1 0 ! IndexOutOfBounds; label -1 0 ! IndexOutOfBounds; label min 0 ! IndexOutOfBounds; "
                        + "label max 0 ! IndexOutOfBounds");
        doc.says("Throws `NoSuchElementException` if there is no such sign",
                "players 1; deal 1 /; label 0 4 ! NoSuchElement; label 0 -1 ! NoSuchElement; label 0 min ! NoSuchElement; label 0 max ! NoSuchElement; "
                        + "lend 0 0; label 0 4 = *; label 0 5 ! NoSuchElement");
    }

    private void keyMoves() {
        promise("34: keyMoves");
        doc.says("Returns the sum of the moves of all keys.",
                "keyMoves = 0; deal 2 1 /; deal 1 2 /; deal 1 2 / 11 12; keyMoves = 0; solve 0 9; keyMoves = 2; solve 1 9; solve 2 9; keyMoves = 5");
        doc.says("Returns the sum of how many moves they have.",
                "2x deal 1 2 /; solve 0 9; keyMoves = 3; solve 1 9; keyMoves = 3",
                "players 1; deal 2 1 /; lend 0 0; attempt 0 0 9 1 19; keyMoves = 3; solve 0 9; keyMoves = 2");
    }

    private void checksum() {
        promise("35: checksum");
        doc.says("Returns a sum over the archive.", "checksum = 7; card 1; move 0 1; days 3; checksum = 7; player; checksum = 237");
        doc.says("Returns 7 at first, then for each entry 31 times itself plus its copies, then 31 times itself plus the state as a number,",
                // (7 * 31 + 1) * 31 + 111
                "deal 1 /; checksum = 6869",
                // (7 * 31 + 4) * 31 + 100, then times 31 + 1, times 31 + 111
                "deal 1 2 / 11 12; copies 0 3; solve 0 9; deal 1 /; checksum = 6680053");
        doc.says("then, for each move of its key, 31 times itself plus the move;",
                // ((((7 * 31 + 1) * 31 + 115) * 31 + 1) * 31 + 9) * 31 + 19
                "deal 1 2 /; solve 0 9; checksum = 204754802");
        doc.says("then for each player 31 times itself plus the points.",
                "players 2; checksum = 7367",
                // below 0: ((7 * 31 + 1) * 31 + 111) * 31 - 5
                "players 1; deal 1 /; fails 0 0 5; checksum = 212934");
        wrappingChecksum();
    }

    /** 12 entries make the sum go round beyond 63 bits. */
    private void wrappingChecksum() {
        java.math.BigInteger sum = java.math.BigInteger.valueOf(7);
        for (int i = 0; i < 24; i++) {
            sum = sum.multiply(java.math.BigInteger.valueOf(31)).add(java.math.BigInteger.valueOf(i % 2 == 0 ? 1 : 'o'));
        }
        doc.holds("the sum wraps around", "12x deal 1 /; checksum = " + sum.longValue());
    }

    private void solvedShare() {
        promise("36: solvedShare");
        doc.says("Returns the share of entries that are solved.",
                "deal 1 2 /; solvedShare = 0; solve 0 9; solvedShare = 1; deal 1 2 / 11 12; solvedShare = 1/2; solve 1 9; solvedShare = 1/2");
        doc.says("Returns their number divided by that of all, both converted to float.",
                "deal 1 2 /; 2x deal 1 2 / 11 12; solve 0 9; solvedShare = 1/3; deal 2 1 /; solve 3 9; solvedShare = 2/4; deal 1 /; "
                        + "solve 4 9; solvedShare = 3/5; deal 3 2 1 /; solve 5 9; deal 1 11 /; solve 6 9; solvedShare = 5/7");
        doc.says("Throws `ArithmeticException` if there are none", "solvedShare ! Arithmetic; player; solvedShare ! Arithmetic; deal 1 /; solvedShare = 0");
    }

    private void meanPoints() {
        promise("37: meanPoints");
        doc.says("Returns the mean points of players.", "players 6; meanPoints = 20; deal 1 /; lend 0 0; attempt 0 0 9; meanPoints = 130/6");
        doc.says("Returns the sum divided by their number, both converted to double.",
                "players 3; deal 1 /; lend 0 0; giveBack 0 0; meanPoints = 52/3; lend 1 0; 2x days 30; meanPoints = -1/3",
                "players 2; deal 1 /; lend 0 0; 2x days 30; points 0 = -33; meanPoints = -13/2",
                "players 2; 2x deal 1 /; lend 0 0; lend 1 1; days 27; points 0 = 0; points 1 = 0; meanPoints = 0");
        doc.says("Throws `ArithmeticException` if there are none", "meanPoints ! Arithmetic; deal 1 /; meanPoints ! Arithmetic; player; meanPoints = 20");
    }

    private void isSound() {
        promise("38: isSound");
        doc.says("Checks the archive:", "isSound = true; deal 1 2 / 11 12; isSound = true; solve 0 9; isSound = true; card 1; isSound = true");
        doc.says("each key solves its deal;",
                "players 1; deal 2 1 /; deal 1 2 /; solve 1 9; isSound = true; lend 0 0; attempt 0 0 9 1 19; isSound = true; lend 0 0; "
                        + "attempt 0 0 1 19 9; isSound = true; solve 0 9; isSound = true",
                "deal / 1 13 24 21 4 22 14 / / 11 23 3 2 12; solve 0 20000; isSound = true");
        doc.says("no two entries have the same key and like deals;",
                "2x deal 2 1 /; deal 1 11 /; solve 0 9; solve 2 9; isSound = true; solve 1 9; isSound = true; entries = 2");
        doc.says("copies lent are at most the copies;",
                "players 3; 2x deal 1 /; lend 0 0; lend 1 1; await 2 1; isSound = true; solve 0 9; solve 1 9; isSound = true; of 0 l = 2; of 0 c = 2");
        doc.says("and each key is found, at an entry that has it.",
                "deal 2 1 /; deal 1 11 /; solve 1 9; go 9 9; find = 1; isSound = true; solve 0 9; find = 0; isSound = true");
        doc.says("Returns whether all of this holds.", "players 2; 3x deal 1 /; lend 0 2; await 1 2; solve 0 9; solve 2 9; solve 1 9; isSound = true");
    }
}
