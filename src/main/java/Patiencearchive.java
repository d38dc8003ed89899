import java.util.ArrayList;
import java.util.NoSuchElementException;

/** An archive of patience deals with a solver, loans to players and lists of those who wait. */
public final class Patiencearchive {
    private static final int MOST_PILES = 5;
    private static final int MOST_CARDS = 12;
    private static final int SUITS = 3;
    private static final int RANKS = 4;
    private static final int MOST_MOVES = 40;
    private static final int STACK = 9;
    private static final int MOST_ENTRIES = 12;
    private static final int MOST_PLAYERS = 6;
    private static final int MOST_LOANS = 3;
    private static final int MOST_ADDED = 3;
    private static final int MOST_COPIES = 9;
    private static final int MOST_BUDGET = 20000;
    private static final int MOST_DAYS = 30;
    private static final int LOAN_DAYS = 7;

    private static final int FIRST_POINTS = 20;
    private static final int BETTER_REWARD = 10;
    private static final int SHORTER_REWARD = 2;
    private static final int OTHER_REWARD = 2;
    private static final int FAILED_COST = 5;
    private static final int GIVE_BACK_COST = 8;

    private static final char OPEN = 'o';
    private static final char DEAD = 'd';
    private static final char SOLVED = 's';

    // A position is packed into one long, four bits a sign: pile by pile its cards from below,
    // a NEXT_PILE between two piles, 0 behind the last sign. 12 cards and 4 marks fill it just up.
    private static final int SIGNS = 16;
    private static final int SIGN_BITS = 4;
    private static final int NEXT_PILE = 13;

    private final TypedDeal typedDeal = new TypedDeal();
    private final Row typedMoves = new Row(MOST_MOVES);
    private final ArrayList<Entry> entries = new ArrayList<Entry>();
    private final ArrayList<Player> players = new ArrayList<Player>();
    // In the order of lending, which tells what was lent earlier.
    private final ArrayList<Loan> loans = new ArrayList<Loan>();
    private final Solver solver = new Solver();
    private final Table table = new Table();
    private final Row whyLetters = new Row(3);
    private final Row whyNumbers = new Row(3);
    private int taken;
    private int day;

    public Patiencearchive() {
    }

    public int card(int card) throws IllegalArgumentException, IllegalStateException {
        int sign = signOfCard(card);
        if (sign == 0) {
            throw new IllegalArgumentException("no such suit or rank");
        }
        if (typedDeal.cards >= MOST_CARDS) {
            throw new IllegalStateException("12 cards are typed");
        }
        typedDeal.lay(sign);
        return typedDeal.height;
    }

    public int pile() throws IllegalStateException {
        if (typedDeal.pile >= MOST_PILES - 1) {
            throw new IllegalStateException("there are 5 piles");
        }
        typedDeal.goOn();
        return typedDeal.pile;
    }

    public int move(int from, int to) throws IllegalArgumentException, IllegalStateException {
        if (!canBePile(from) || !(canBePile(to) || to == STACK) || from == to) {
            throw new IllegalArgumentException("no such move");
        }
        if (typedMoves.count() >= MOST_MOVES) {
            throw new IllegalStateException("40 moves are typed");
        }
        typedMoves.append(10 * from + to);
        return typedMoves.count();
    }

    public int wipe() {
        int were = typedDeal.cards + typedMoves.count();
        typedDeal.empty();
        typedMoves.empty();
        return were;
    }

    public int add() throws UnsupportedOperationException, IllegalStateException {
        if (!typedDeal.isDeal()) {
            throw new UnsupportedOperationException("no deal is typed");
        }
        if (entries.size() >= MOST_ENTRIES) {
            throw new IllegalStateException("there are 12 entries");
        }
        entries.add(new Entry(typedDeal));
        typedDeal.empty();
        typedMoves.empty();
        return entries.size() - 1;
    }

    public int copies(int entry, int many)
            throws IndexOutOfBoundsException, IllegalArgumentException, IllegalStateException {
        Entry one = entryAt(entry);
        if (many < 1 || many > MOST_ADDED) {
            throw new IllegalArgumentException("1 to 3 copies are added");
        }
        if (one.copies + many > MOST_COPIES) {
            throw new IllegalStateException("more than 9 copies");
        }
        one.copies += many;
        serve(one);
        return one.copies;
    }

    public int entries() {
        return entries.size();
    }

    public int of(int entry, char what) throws IndexOutOfBoundsException, IllegalArgumentException {
        Entry one = entryAt(entry);
        switch (what) {
            case 'p':
                return one.piles;
            case 's':
                return one.suits;
            case 'r':
                return one.ranks;
            case 'c':
                return one.copies;
            case 'l':
                return lentOf(one);
            case 'w':
                return one.waiting.size();
            case 'k':
                return one.key.count();
            default:
                throw new IllegalArgumentException("no such thing of an entry");
        }
    }

    public char state(int entry) throws IndexOutOfBoundsException {
        return entryAt(entry).state;
    }

    public int cardOf(int entry, int pile, int index) throws IndexOutOfBoundsException, NoSuchElementException {
        int sign = cardSignAt(entryAt(entry).deal, pile, index);
        if (sign == 0) {
            throw new NoSuchElementException("no such card");
        }
        return toldCard(sign);
    }

    public int keyOf(int entry, int index) throws IndexOutOfBoundsException, NoSuchElementException {
        Row key = entryAt(entry).key;
        if (!key.has(index)) {
            throw new NoSuchElementException("no such move");
        }
        return key.at(index);
    }

    public char solve(int entry, int budget) throws IndexOutOfBoundsException, IllegalArgumentException {
        Entry one = entryAt(entry);
        if (!isBudget(budget)) {
            throw new IllegalArgumentException("a budget is 1 to 20000");
        }
        char result = solver.search(one.deal, budget, false);
        taken = solver.taken;
        if (result == DEAD && one.state == OPEN) {
            one.state = DEAD;
        }
        if (result == SOLVED && one.improve(solver.way)) {
            Entry kept = meet(one);
            if (kept != null) {
                serve(kept);
            }
        }
        return result;
    }

    public int taken() {
        return taken;
    }

    public int reach(int entry, int budget)
            throws IndexOutOfBoundsException, IllegalArgumentException, UnsupportedOperationException {
        Entry one = entryAt(entry);
        if (!isBudget(budget)) {
            throw new IllegalArgumentException("a budget is 1 to 20000");
        }
        if (solver.search(one.deal, budget, true) == OPEN) {
            throw new UnsupportedOperationException("more positions than the budget");
        }
        return solver.kept;
    }

    public int moves(int entry) throws IndexOutOfBoundsException {
        table.show(entryAt(entry).deal);
        int many = 0;
        for (int from = 0; from < MOST_PILES; from++) {
            for (int to = 0; to <= STACK; to++) {
                if (table.allows(from, to)) {
                    many++;
                }
            }
        }
        return many;
    }

    public boolean areLike(int entry, int other) throws IndexOutOfBoundsException {
        return entryAt(entry).isLike(entryAt(other));
    }

    public int find() throws NoSuchElementException {
        int first = firstWithKey(typedMoves);
        if (first < 0) {
            throw new NoSuchElementException("no entry has this key");
        }
        return first;
    }

    public int listed(int place) throws NoSuchElementException {
        for (int i = 0; i < entries.size(); i++) {
            if (placeInList(i) == place) {
                return i;
            }
        }
        throw new NoSuchElementException("no such place");
    }

    public int player() throws IllegalStateException {
        if (players.size() >= MOST_PLAYERS) {
            throw new IllegalStateException("there are 6 players");
        }
        players.add(new Player(players.size()));
        return players.size() - 1;
    }

    public int points(int player) throws IndexOutOfBoundsException {
        return playerAt(player).points;
    }

    public int loans(int player) throws IndexOutOfBoundsException {
        return loansOf(playerAt(player));
    }

    public int lend(int player, int entry)
            throws IndexOutOfBoundsException, NoSuchElementException, UnsupportedOperationException {
        Player who = playerAt(player);
        Entry one = entryAt(entry);
        if (copiesLeft(one) <= 0) {
            throw new NoSuchElementException("all copies are lent");
        }
        if (!couldBeLent(who, one) || one.placeOfWaiting(who) >= 0) {
            throw new UnsupportedOperationException("cannot be lent to this player");
        }
        loans.add(new Loan(who, one, day + LOAN_DAYS));
        return copiesLeft(one);
    }

    public int await(int player, int entry) throws IndexOutOfBoundsException, UnsupportedOperationException {
        Player who = playerAt(player);
        Entry one = entryAt(entry);
        if (copiesLeft(one) > 0 || placeOfLoan(who, one) >= 0 || one.placeOfWaiting(who) >= 0) {
            throw new UnsupportedOperationException("cannot wait for this entry");
        }
        one.waiting.add(who);
        return one.waiting.size();
    }

    public int leave(int player, int entry) throws IndexOutOfBoundsException, NoSuchElementException {
        Player who = playerAt(player);
        Entry one = entryAt(entry);
        int place = one.placeOfWaiting(who);
        if (place < 0) {
            throw new NoSuchElementException("the player does not wait");
        }
        one.endWaiting(place);
        return one.waiting.size();
    }

    public char attempt(int player, int entry) throws IndexOutOfBoundsException, NoSuchElementException {
        Player who = playerAt(player);
        Entry one = entryAt(entry);
        endLoan(placeOfCopyHeld(who, one));
        char result = judge(who, one);
        typedMoves.empty();
        Entry kept = result == 'b' ? meet(one) : null;
        serve(kept != null ? kept : one);
        return result;
    }

    public int giveBack(int player, int entry) throws IndexOutOfBoundsException, NoSuchElementException {
        Player who = playerAt(player);
        Entry one = entryAt(entry);
        endLoan(placeOfCopyHeld(who, one));
        who.points -= GIVE_BACK_COST;
        serve(one);
        return who.points;
    }

    public int due(int player, int entry) throws IndexOutOfBoundsException, NoSuchElementException {
        int place = placeOfCopyHeld(playerAt(player), entryAt(entry));
        return loans.get(place).lastDay - day;
    }

    public int days(int days) throws IllegalArgumentException {
        if (days < 1 || days > MOST_DAYS) {
            throw new IllegalArgumentException("1 to 30 days go by");
        }
        for (int i = 0; i < loans.size(); i++) {
            Loan loan = loans.get(i);
            loan.player.points -= loan.daysBehind(day + days) - loan.daysBehind(day);
        }
        day += days;
        return day;
    }

    public int firstWaiting(int entry) throws IndexOutOfBoundsException, NoSuchElementException {
        Entry one = entryAt(entry);
        int place = placeOfNext(one);
        if (place < 0 || place >= one.waiting.size()) {
            throw new NoSuchElementException("none waits who could be lent a copy");
        }
        return one.waiting.get(place).number;
    }

    public char why(int depth) throws NoSuchElementException {
        if (!whyLetters.has(depth)) {
            throw new NoSuchElementException("no such cause");
        }
        return (char) whyLetters.at(depth);
    }

    public int whyNumber(int depth) throws NoSuchElementException {
        if (!whyNumbers.has(depth)) {
            throw new NoSuchElementException("no such cause");
        }
        return whyNumbers.at(depth);
    }

    public char label(int entry, int index) throws IndexOutOfBoundsException, NoSuchElementException {
        StringBuilder text = labelText(entryAt(entry), entry);
        if (index < 0 || index >= text.length()) {
            throw new NoSuchElementException("no such sign");
        }
        return text.charAt(index);
    }

    public int keyMoves() {
        int sum = 0;
        for (int i = 0; i < entries.size(); i++) {
            sum += entries.get(i).key.count();
        }
        return sum;
    }

    public long checksum() {
        long sum = 7;
        for (int i = 0; i < entries.size(); i++) {
            sum = entries.get(i).addedTo(sum);
        }
        for (int i = 0; i < players.size(); i++) {
            sum = 31 * sum + players.get(i).points;
        }
        return sum;
    }

    public float solvedShare() throws ArithmeticException {
        int all = entries.size();
        if (all == 0) {
            throw new ArithmeticException("there are no entries");
        }
        int solved = 0;
        for (int i = 0; i < all; i++) {
            if (entries.get(i).state == SOLVED) {
                solved++;
            }
        }
        return (float) solved / (float) all;
    }

    public double meanPoints() throws ArithmeticException {
        int all = players.size();
        if (all == 0) {
            throw new ArithmeticException("there are no players");
        }
        int sum = 0;
        for (int i = 0; i < all; i++) {
            sum += players.get(i).points;
        }
        return (double) sum / (double) all;
    }

    public boolean isSound() {
        for (int i = 0; i < entries.size(); i++) {
            Entry one = entries.get(i);
            if (copiesLeft(one) < 0 || (one.state == SOLVED && !isKeySound(one))) {
                return false;
            }
        }
        return true;
    }

    private static boolean canBePile(int pile) {
        return pile >= 0 && pile < MOST_PILES;
    }

    private static boolean isBudget(int budget) {
        return budget >= 1 && budget <= MOST_BUDGET;
    }

    /** The sign of a card that is told, 1 to 12, or 0 if there is no such card. */
    private static int signOfCard(int card) {
        if (card < 0) {
            return 0;
        }
        int suit = card / 10;
        int rank = card % 10;
        if (suit >= SUITS || rank < 1 || rank > RANKS) {
            return 0;
        }
        return signOf(suit, rank);
    }

    private static int signOf(int suit, int rank) {
        return RANKS * suit + rank;
    }

    private static int suitOf(int sign) {
        return (sign - 1) / RANKS;
    }

    private static int rankOf(int sign) {
        return (sign - 1) % RANKS + 1;
    }

    private static int toldCard(int sign) {
        return 10 * suitOf(sign) + rankOf(sign);
    }

    private static boolean isCard(int sign) {
        return sign >= 1 && sign <= MOST_CARDS;
    }

    private static int signAt(long signs, int place) {
        return (int) (signs >>> (SIGN_BITS * place)) & 15;
    }

    /** The bits of all signs before a place, which is below 16. */
    private static long before(int place) {
        return (1L << (SIGN_BITS * place)) - 1;
    }

    private static long without(long signs, int place) {
        long kept = before(place);
        return (signs & kept) | ((signs >>> SIGN_BITS) & ~kept);
    }

    private static long with(long signs, int place, int sign) {
        long kept = before(place);
        return (signs & kept) | ((long) sign << (SIGN_BITS * place)) | ((signs & ~kept) << SIGN_BITS);
    }

    /** The sign of the card at an index of a pile, or 0 if there is none. */
    private static int cardSignAt(long signs, int pile, int index) {
        int nowPile = 0;
        int nowIndex = 0;
        for (int place = 0; place < SIGNS; place++) {
            int sign = signAt(signs, place);
            if (sign == NEXT_PILE) {
                nowPile++;
                nowIndex = 0;
            } else {
                if (isCard(sign) && nowPile == pile && nowIndex == index) {
                    return sign;
                }
                nowIndex++;
            }
        }
        return 0;
    }

    private Entry entryAt(int entry) {
        if (entry < 0 || entry >= entries.size()) {
            throw new IndexOutOfBoundsException("no such entry");
        }
        return entries.get(entry);
    }

    private Player playerAt(int player) {
        if (player < 0 || player >= players.size()) {
            throw new IndexOutOfBoundsException("no such player");
        }
        return players.get(player);
    }

    private int lentOf(Entry one) {
        int lent = 0;
        for (int i = 0; i < loans.size(); i++) {
            if (loans.get(i).entry == one) {
                lent++;
            }
        }
        return lent;
    }

    private int copiesLeft(Entry one) {
        return one.copies - lentOf(one);
    }

    private int loansOf(Player who) {
        int many = 0;
        for (int i = 0; i < loans.size(); i++) {
            if (loans.get(i).player == who) {
                many++;
            }
        }
        return many;
    }

    /** The place of the loan that was lent earliest, as a player may have two copies of an entry. */
    private int placeOfLoan(Player who, Entry one) {
        for (int i = 0; i < loans.size(); i++) {
            Loan loan = loans.get(i);
            if (loan.player == who && loan.entry == one) {
                return i;
            }
        }
        return -1;
    }

    private int placeOfCopyHeld(Player who, Entry one) {
        int place = placeOfLoan(who, one);
        if (place < 0 || place >= loans.size()) {
            throw new NoSuchElementException("the player has no copy");
        }
        return place;
    }

    private void endLoan(int place) {
        if (place >= 0 && place < loans.size()) {
            loans.remove(place);
        }
    }

    private boolean couldBeLent(Player who, Entry one) {
        return loansOf(who) < MOST_LOANS && who.points >= 0 && placeOfLoan(who, one) < 0;
    }

    /** The place among those who wait of the one who is lent the next copy, or -1 if there is none. */
    private int placeOfNext(Entry one) {
        int next = -1;
        int most = -1;
        for (int i = 0; i < one.waiting.size(); i++) {
            Player who = one.waiting.get(i);
            if (who.points > most && couldBeLent(who, one)) {
                next = i;
                most = who.points;
            }
        }
        return next;
    }

    private void serve(Entry one) {
        for (int left = copiesLeft(one); left > 0; left--) {
            int place = placeOfNext(one);
            if (place < 0 || place >= one.waiting.size()) {
                return;
            }
            loans.add(new Loan(one.waiting.get(place), one, day + LOAN_DAYS));
            one.endWaiting(place);
        }
    }

    /** Looks at the typed moves as a try, pays for it, and takes the key over if it is better. */
    private char judge(Player who, Entry one) {
        int made = table.play(one.deal, typedMoves);
        if (made < typedMoves.count() || !table.isSolved()) {
            tellWhy(made);
            who.points -= FAILED_COST;
            return 'x';
        }
        int shorter = one.state == SOLVED ? one.key.count() - typedMoves.count() : 0;
        if (!one.improve(typedMoves)) {
            who.points += OTHER_REWARD;
            return 'e';
        }
        who.points += BETTER_REWARD + SHORTER_REWARD * shorter;
        return 'b';
    }

    /** Keeps why the typed moves failed; the table stands as it was before the move at the place. */
    private void tellWhy(int place) {
        whyLetters.empty();
        whyNumbers.empty();
        tellCause('t', place);
        if (!typedMoves.has(place)) {
            return;
        }
        int move = typedMoves.at(place);
        int from = move / 10;
        int to = move % 10;
        tellCause('m', move);
        int top = table.topOf(from);
        if (top == 0) {
            tellCause('e', from);
        } else if (to == STACK) {
            tellCause('s', toldCard(top));
        } else {
            tellCause('p', to);
        }
    }

    private void tellCause(char letter, int number) {
        whyLetters.append(letter);
        whyNumbers.append(number);
    }

    /** Lets an entry whose key is new meet a like one of the same key; returns what is kept, or null. */
    private Entry meet(Entry one) {
        int own = -1;
        int other = -1;
        for (int i = 0; i < entries.size(); i++) {
            Entry each = entries.get(i);
            if (each == one) {
                own = i;
            } else if (each.hasKey(one.key) && each.isLike(one)) {
                other = i;
            }
        }
        if (own < 0 || other < 0) {
            return null;
        }
        return join(Math.min(own, other), Math.max(own, other));
    }

    private Entry join(int lower, int higher) {
        Entry kept = entryAt(lower);
        Entry gone = entryAt(higher);
        kept.copies += gone.copies;
        for (int i = 0; i < loans.size(); i++) {
            Loan loan = loans.get(i);
            if (loan.entry == gone) {
                loan.entry = kept;
            }
        }
        for (int i = 0; i < gone.waiting.size(); i++) {
            Player who = gone.waiting.get(i);
            if (kept.placeOfWaiting(who) < 0) {
                kept.waiting.add(who);
            }
        }
        entries.remove(higher);
        return kept;
    }

    /** Entries of one key stand in the list by their numbers, so the first one is the lowest. */
    private int firstWithKey(Row moves) {
        for (int i = 0; i < entries.size(); i++) {
            if (entries.get(i).hasKey(moves)) {
                return i;
            }
        }
        return -1;
    }

    private int placeInList(int entry) {
        Entry one = entryAt(entry);
        int place = 0;
        for (int i = 0; i < entries.size(); i++) {
            int order = entries.get(i).compareInList(one);
            if (order < 0 || (order == 0 && i < entry)) {
                place++;
            }
        }
        return place;
    }

    private StringBuilder labelText(Entry one, int number) {
        StringBuilder text = new StringBuilder();
        text.append(one.state).append(number).append(':');
        if (one.state == SOLVED) {
            text.append(one.key.count());
        } else {
            text.append('-');
        }
        int lent = lentOf(one);
        for (int i = 0; i < lent; i++) {
            text.append('*');
        }
        return text;
    }

    private boolean isKeySound(Entry one) {
        int made = table.play(one.deal, one.key);
        if (made < one.key.count() || !table.isSolved()) {
            return false;
        }
        for (int i = 0; i < entries.size(); i++) {
            Entry other = entries.get(i);
            if (other != one && other.hasKey(one.key) && other.isLike(one)) {
                return false;
            }
        }
        return firstWithKey(one.key) >= 0;
    }

    /** A row of numbers in a room of fixed length. */
    private static final class Row {
        private final int[] cells;
        private int size;

        Row(int room) {
            cells = new int[Math.max(room, 0)];
        }

        int count() {
            return size;
        }

        boolean has(int index) {
            return index >= 0 && index < size && index < cells.length;
        }

        int at(int index) {
            return has(index) ? cells[index] : 0;
        }

        void append(int value) {
            if (size >= 0 && size < cells.length) {
                cells[size] = value;
                size++;
            }
        }

        void empty() {
            size = 0;
        }

        void takeOver(Row other) {
            empty();
            for (int i = 0; i < other.size; i++) {
                append(other.at(i));
            }
        }

        void turnRound() {
            for (int i = 0; i < size / 2; i++) {
                int last = size - 1 - i;
                if (has(i) && has(last)) {
                    int value = cells[i];
                    cells[i] = cells[last];
                    cells[last] = value;
                }
            }
        }

        /** Below 0 if this row of moves is the better one, 0 if both are the same. */
        int compareMoves(Row other) {
            if (size != other.size) {
                return Integer.compare(size, other.size);
            }
            for (int i = 0; i < size; i++) {
                if (at(i) != other.at(i)) {
                    return Integer.compare(at(i), other.at(i));
                }
            }
            return 0;
        }
    }

    /** The piles that are typed, which may be no deal yet. */
    private static final class TypedDeal {
        private long signs;
        private int length;
        private int cards;
        private int pile;
        private int height;

        void lay(int sign) {
            append(sign);
            cards++;
            height++;
        }

        void goOn() {
            append(NEXT_PILE);
            pile++;
            height = 0;
        }

        void empty() {
            signs = 0;
            length = 0;
            cards = 0;
            pile = 0;
            height = 0;
        }

        private void append(int sign) {
            if (length < SIGNS) {
                signs = with(signs, length, sign);
                length++;
            }
        }

        /** A bit for each card there is. */
        int cardBits() {
            int bits = 0;
            for (int place = 0; place < SIGNS; place++) {
                int sign = signAt(signs, place);
                if (isCard(sign)) {
                    bits |= 1 << sign;
                }
            }
            return bits;
        }

        int rankBits(int suit) {
            return (cardBits() >>> signOf(suit, 1)) & ((1 << RANKS) - 1);
        }

        int suits() {
            int many = 0;
            for (int suit = 0; suit < SUITS; suit++) {
                if (rankBits(suit) != 0) {
                    many++;
                }
            }
            return many;
        }

        int ranks() {
            return Integer.bitCount(rankBits(0) | rankBits(1) | rankBits(2));
        }

        boolean isDeal() {
            if (pile < 1 || cards < 1 || Integer.bitCount(cardBits()) != cards) {
                return false;
            }
            int full = (1 << ranks()) - 1;
            for (int suit = 0; suit < SUITS; suit++) {
                int bits = rankBits(suit);
                if (bits != 0 && bits != full) {
                    return false;
                }
            }
            return true;
        }

        /** The piles with their suits named in the order in which they come: the same for like deals. */
        long shape() {
            long shape = 0;
            int names = 0;
            int named = 0;
            for (int place = 0; place < SIGNS; place++) {
                int sign = signAt(signs, place);
                if (isCard(sign)) {
                    int shift = SIGN_BITS * suitOf(sign);
                    if (((names >>> shift) & 15) == 0) {
                        named++;
                        names |= named << shift;
                    }
                    sign = signOf(((names >>> shift) & 15) - 1, rankOf(sign));
                }
                shape |= (long) sign << (SIGN_BITS * place);
            }
            return shape;
        }
    }

    private static final class Entry {
        private final long deal;
        private final long shape;
        private final int piles;
        private final int suits;
        private final int ranks;
        private final Row key = new Row(MOST_MOVES);
        private final ArrayList<Player> waiting = new ArrayList<Player>();
        private int copies = 1;
        private char state = OPEN;

        Entry(TypedDeal typed) {
            deal = typed.signs;
            shape = typed.shape();
            piles = typed.pile + 1;
            suits = typed.suits();
            ranks = typed.ranks();
        }

        boolean isLike(Entry other) {
            return shape == other.shape;
        }

        boolean hasKey(Row moves) {
            return state == SOLVED && key.compareMoves(moves) == 0;
        }

        /** Takes a solution over as the key if it is better or the first one; returns whether it did. */
        boolean improve(Row solution) {
            if (state == SOLVED && solution.compareMoves(key) >= 0) {
                return false;
            }
            key.takeOver(solution);
            state = SOLVED;
            return true;
        }

        int compareInList(Entry other) {
            if (state != other.state) {
                return Integer.compare(stateOrder(), other.stateOrder());
            }
            return state == SOLVED ? key.compareMoves(other.key) : 0;
        }

        private int stateOrder() {
            return state == SOLVED ? 0 : state == OPEN ? 1 : 2;
        }

        int placeOfWaiting(Player who) {
            for (int i = 0; i < waiting.size(); i++) {
                if (waiting.get(i) == who) {
                    return i;
                }
            }
            return -1;
        }

        void endWaiting(int place) {
            if (place >= 0 && place < waiting.size()) {
                waiting.remove(place);
            }
        }

        long addedTo(long before) {
            long sum = 31 * before + copies;
            sum = 31 * sum + state;
            for (int i = 0; i < key.count(); i++) {
                sum = 31 * sum + key.at(i);
            }
            return sum;
        }
    }

    private static final class Player {
        private final int number;
        private int points = FIRST_POINTS;

        Player(int number) {
            this.number = number;
        }
    }

    private static final class Loan {
        private final Player player;
        private final int lastDay;
        private Entry entry;

        Loan(Player player, Entry entry, int lastDay) {
            this.player = player;
            this.entry = entry;
            this.lastDay = lastDay;
        }

        int daysBehind(int today) {
            return Math.max(today - lastDay, 0);
        }
    }

    /** One position, opened up for looking at its moves. */
    private static final class Table {
        private final int[] tops = new int[MOST_PILES];
        // The place behind the top of each pile among the signs.
        private final int[] ends = new int[MOST_PILES];
        private long signs;
        private int piles;
        private int cardBits;

        void show(long position) {
            signs = position;
            cardBits = 0;
            piles = 0;
            startPile(0);
            for (int place = 0; place < SIGNS; place++) {
                int sign = signAt(position, place);
                if (sign == 0) {
                    return;
                }
                if (sign == NEXT_PILE) {
                    startPile(place + 1);
                } else {
                    putOnLast(sign, place + 1);
                }
            }
        }

        private void startPile(int end) {
            if (piles >= 0 && piles < MOST_PILES) {
                tops[piles] = 0;
                ends[piles] = end;
                piles++;
            }
        }

        private void putOnLast(int sign, int end) {
            int last = piles - 1;
            if (last >= 0 && last < MOST_PILES) {
                tops[last] = sign;
                ends[last] = end;
                cardBits |= 1 << sign;
            }
        }

        private boolean isPile(int pile) {
            return pile >= 0 && pile < piles && pile < MOST_PILES;
        }

        /** The top of a pile, or 0 if it is empty or there is none. */
        int topOf(int pile) {
            return isPile(pile) ? tops[pile] : 0;
        }

        boolean allows(int from, int to) {
            int card = topOf(from);
            if (card == 0 || from == to) {
                return false;
            }
            return to == STACK ? goesToStack(card) : isPile(to) && fits(card, topOf(to));
        }

        /** The stack has all lower ranks if none of them lies in the piles. */
        private boolean goesToStack(int card) {
            int first = signOf(suitOf(card), 1);
            return (cardBits & ((1 << card) - (1 << first))) == 0;
        }

        private static boolean fits(int card, int top) {
            return top == 0 || (suitOf(top) != suitOf(card) && rankOf(top) == rankOf(card) + 1);
        }

        /** The position behind a move that the table allows. */
        long after(int from, int to) {
            if (!isPile(from) || ends[from] < 1) {
                return signs;
            }
            long rest = without(signs, ends[from] - 1);
            if (!isPile(to)) {
                return rest;
            }
            int place = to > from ? ends[to] - 1 : ends[to];
            return with(rest, place, tops[from]);
        }

        boolean isSolved() {
            return cardBits == 0;
        }

        boolean hasOneCard() {
            return Integer.bitCount(cardBits) == 1;
        }

        /** Makes a row of moves as far as it can be made; returns how many were made. */
        int play(long deal, Row moves) {
            show(deal);
            for (int i = 0; i < moves.count(); i++) {
                int from = moves.at(i) / 10;
                int to = moves.at(i) % 10;
                if (!allows(from, to)) {
                    return i;
                }
                show(after(from, to));
            }
            return moves.count();
        }
    }

    /** Finds positions in breadth; its rows are made once and used for each search again. */
    private static final class Solver {
        private static final int SLOT_BITS = 15;
        private static final int SLOTS = 1 << SLOT_BITS;
        private static final int LAST_ROUND = (1 << 16) - 1;
        private static final int MOVE_BITS = 6;
        private static final long SPREAD = 0x9E3779B97F4A7C15L;

        private final Table table = new Table();
        private final Row way = new Row(MOST_MOVES);
        private final long[] positions = new long[MOST_BUDGET];
        // For each position the number of the one before it, and the move between them.
        private final int[] steps = new int[MOST_BUDGET];
        // For each slot the round of the search that used it and the number of a position,
        // so that a new round finds all slots empty without clearing them.
        private final int[] slots = new int[SLOTS];
        private int round;
        private int room;
        private int kept;
        private int taken;
        // Whether a position was found that the budget has no room for.
        private boolean isMore;

        /** Works from a deal on; with all, it goes on behind solved positions, and DEAD says that none is left. */
        char search(long deal, int budget, boolean all) {
            startRound(budget);
            keep(deal, 0);
            for (int head = 0; head < kept && head < MOST_BUDGET; head++) {
                if (all && isMore) {
                    return OPEN;
                }
                taken = head + 1;
                table.show(positions[head]);
                if (takeUp(head, all)) {
                    return SOLVED;
                }
            }
            return isMore ? OPEN : DEAD;
        }

        private void startRound(int budget) {
            room = Math.min(budget, MOST_BUDGET);
            kept = 0;
            taken = 0;
            isMore = false;
            round++;
            if (round > LAST_ROUND) {
                round = 1;
                for (int i = 0; i < SLOTS; i++) {
                    slots[i] = 0;
                }
            }
        }

        /** Makes all moves of the position on the table; returns whether it ended at a solved one. */
        private boolean takeUp(int head, boolean all) {
            for (int from = 0; from < table.piles; from++) {
                if (table.allows(from, STACK)) {
                    if (!all && table.hasOneCard()) {
                        tellWay(head, 10 * from + STACK);
                        return true;
                    }
                    keep(table.after(from, STACK), stepOf(head, 10 * from + STACK));
                }
                for (int to = 0; to < table.piles; to++) {
                    if (table.allows(from, to)) {
                        keep(table.after(from, to), stepOf(head, 10 * from + to));
                    }
                }
            }
            return false;
        }

        private static int stepOf(int head, int move) {
            return (head << MOVE_BITS) | move;
        }

        private void keep(long position, int step) {
            int slot = (int) ((position * SPREAD) >>> (64 - SLOT_BITS));
            for (int tries = 0; tries < SLOTS; tries++) {
                int at = (slot + tries) & (SLOTS - 1);
                if (slots[at] >>> SLOT_BITS != round) {
                    keepNew(position, step, at);
                    return;
                }
                int number = slots[at] & (SLOTS - 1);
                if (number < MOST_BUDGET && positions[number] == position) {
                    return;
                }
            }
        }

        /** What the budget will never take up needs no room: it is enough to know of it. */
        private void keepNew(long position, int step, int slot) {
            if (kept < 0 || kept >= room || kept >= MOST_BUDGET) {
                isMore = true;
                return;
            }
            positions[kept] = position;
            steps[kept] = step;
            slots[slot] = (round << SLOT_BITS) | kept;
            kept++;
        }

        /** Of all deals that were searched for long ways, none that the budget solves needs more than 35 moves. */
        private void tellWay(int head, int lastMove) {
            way.empty();
            way.append(lastMove);
            int number = head;
            for (int i = 0; i < MOST_MOVES && number > 0 && number < MOST_BUDGET; i++) {
                way.append(steps[number] & ((1 << MOVE_BITS) - 1));
                number = steps[number] >>> MOVE_BITS;
            }
            way.turnRound();
        }
    }
}
