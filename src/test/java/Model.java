import java.util.ArrayList;
import java.util.Arrays;
import java.util.Collections;
import java.util.HashMap;
import java.util.HashSet;
import java.util.List;
import java.util.Map;
import java.util.NoSuchElementException;
import java.util.Set;
import java.util.TreeMap;

/** The document told again with lists and maps, to compare the class with; made for plainness, not for speed. */
final class Model {
    static final class Deal {
        List<List<Integer>> piles = new ArrayList<>();
        int copies = 1;
        char state = 'o';
        List<Integer> key = new ArrayList<>();
        List<Integer> waiting = new ArrayList<>();

        boolean solves(List<Integer> moves) {
            return failing(moves) == moves.size() && cards(after(moves)) == 0;
        }

        int failing(List<Integer> moves) {
            List<List<Integer>> now = piles;
            for (int i = 0; i < moves.size(); i++) {
                if (!movesOf(now).contains(moves.get(i))) {
                    return i;
                }
                now = made(now, moves.get(i));
            }
            return moves.size();
        }

        /** The piles behind the moves that can be made. */
        List<List<Integer>> after(List<Integer> moves) {
            List<List<Integer>> now = piles;
            for (int move : moves.subList(0, failing(moves))) {
                now = made(now, move);
            }
            return now;
        }
    }

    static final class Copy {
        int player;
        Deal deal;
        int lent;
    }

    List<List<Integer>> typed = new ArrayList<>();
    List<Integer> typedMoves = new ArrayList<>();
    List<Deal> deals = new ArrayList<>();
    List<Integer> points = new ArrayList<>();
    List<Copy> lent = new ArrayList<>();
    List<String> why = new ArrayList<>();
    int day;
    int taken;

    Model() {
        clear();
    }

    // ---- the cards

    static int cards(List<List<Integer>> piles) {
        return piles.stream().mapToInt(List::size).sum();
    }

    static List<Integer> movesOf(List<List<Integer>> piles) {
        List<Integer> moves = new ArrayList<>();
        for (int from = 0; from < piles.size(); from++) {
            if (piles.get(from).isEmpty()) {
                continue;
            }
            int card = top(piles.get(from));
            if (piles.stream().flatMap(List::stream).noneMatch(c -> c / 10 == card / 10 && c % 10 < card % 10)) {
                moves.add(10 * from + 9);
            }
            for (int to = 0; to < piles.size(); to++) {
                if (to != from && takes(piles.get(to), card)) {
                    moves.add(10 * from + to);
                }
            }
        }
        return moves;
    }

    static boolean takes(List<Integer> pile, int card) {
        return pile.isEmpty() || (top(pile) / 10 != card / 10 && top(pile) % 10 == card % 10 + 1);
    }

    static int top(List<Integer> pile) {
        return pile.get(pile.size() - 1);
    }

    static List<List<Integer>> made(List<List<Integer>> piles, int move) {
        List<List<Integer>> next = new ArrayList<>();
        for (List<Integer> pile : piles) {
            next.add(new ArrayList<>(pile));
        }
        int card = next.get(move / 10).remove(next.get(move / 10).size() - 1);
        if (move % 10 != 9) {
            next.get(move % 10).add(card);
        }
        return next;
    }

    static boolean isDeal(List<List<Integer>> piles) {
        Map<Integer, Set<Integer>> ranks = new TreeMap<>();
        for (List<Integer> pile : piles) {
            for (int card : pile) {
                if (!ranks.computeIfAbsent(card / 10, s -> new HashSet<>()).add(card % 10)) {
                    return false;
                }
            }
        }
        if (piles.size() < 2 || ranks.isEmpty() || new HashSet<>(ranks.values()).size() != 1) {
            return false;
        }
        Set<Integer> some = ranks.values().iterator().next();
        return Collections.max(some) == some.size();
    }

    static boolean like(Deal one, Deal other) {
        int[][] orders = {{0, 1, 2}, {0, 2, 1}, {1, 0, 2}, {1, 2, 0}, {2, 0, 1}, {2, 1, 0}};
        for (int[] names : orders) {
            List<List<Integer>> renamed = new ArrayList<>();
            for (List<Integer> pile : one.piles) {
                List<Integer> row = new ArrayList<>();
                pile.forEach(card -> row.add(10 * names[card / 10] + card % 10));
                renamed.add(row);
            }
            if (renamed.equals(other.piles)) {
                return true;
            }
        }
        return false;
    }

    static int better(List<Integer> one, List<Integer> other) {
        if (one.size() != other.size()) {
            return one.size() - other.size();
        }
        return Arrays.compare(one.stream().mapToInt(i -> i).toArray(), other.stream().mapToInt(i -> i).toArray());
    }

    // ---- typing

    void clear() {
        typed = new ArrayList<>();
        typed.add(new ArrayList<>());
        typedMoves = new ArrayList<>();
    }

    int card(int card) {
        if (card < 0 || card / 10 > 2 || card % 10 < 1 || card % 10 > 4) {
            throw new IllegalArgumentException();
        }
        if (cards(typed) == 12) {
            throw new IllegalStateException();
        }
        typed.get(typed.size() - 1).add(card);
        return typed.get(typed.size() - 1).size();
    }

    int pile() {
        if (typed.size() == 5) {
            throw new IllegalStateException();
        }
        typed.add(new ArrayList<>());
        return typed.size() - 1;
    }

    int move(int from, int to) {
        if (from < 0 || from > 4 || to < 0 || (to > 4 && to != 9) || from == to) {
            throw new IllegalArgumentException();
        }
        if (typedMoves.size() == 40) {
            throw new IllegalStateException();
        }
        typedMoves.add(10 * from + to);
        return typedMoves.size();
    }

    int wipe() {
        int were = cards(typed) + typedMoves.size();
        clear();
        return were;
    }

    int add() {
        if (!isDeal(typed)) {
            throw new UnsupportedOperationException();
        }
        if (deals.size() == 12) {
            throw new IllegalStateException();
        }
        Deal deal = new Deal();
        deal.piles = typed;
        deals.add(deal);
        clear();
        return deals.size() - 1;
    }

    // ---- entries

    Deal deal(int entry) {
        if (entry < 0 || entry >= deals.size()) {
            throw new IndexOutOfBoundsException();
        }
        return deals.get(entry);
    }

    int copies(int entry, int many) {
        Deal deal = deal(entry);
        if (many < 1 || many > 3) {
            throw new IllegalArgumentException();
        }
        if (deal.copies + many > 9) {
            throw new IllegalStateException();
        }
        deal.copies += many;
        serve(deal);
        return deal.copies;
    }

    int of(int entry, char what) {
        Deal deal = deal(entry);
        List<Integer> all = new ArrayList<>();
        deal.piles.forEach(all::addAll);
        switch (what) {
            case 'p':
                return deal.piles.size();
            case 's':
                return (int) all.stream().map(c -> c / 10).distinct().count();
            case 'r':
                return (int) all.stream().map(c -> c % 10).distinct().count();
            case 'c':
                return deal.copies;
            case 'l':
                return lentOf(deal);
            case 'w':
                return deal.waiting.size();
            case 'k':
                return deal.key.size();
            default:
                throw new IllegalArgumentException();
        }
    }

    int cardOf(int entry, int pile, int index) {
        List<List<Integer>> piles = deal(entry).piles;
        if (pile < 0 || pile >= piles.size() || index < 0 || index >= piles.get(pile).size()) {
            throw new NoSuchElementException();
        }
        return piles.get(pile).get(index);
    }

    int keyOf(int entry, int index) {
        List<Integer> key = deal(entry).key;
        if (index < 0 || index >= key.size()) {
            throw new NoSuchElementException();
        }
        return key.get(index);
    }

    char solve(int entry, int budget) {
        Deal deal = deal(entry);
        if (budget < 1 || budget > 20000) {
            throw new IllegalArgumentException();
        }
        List<Integer> way = new ArrayList<>();
        taken = 0;
        char result = search(deal, budget, way);
        if (result == 'd' && deal.state == 'o') {
            deal.state = 'd';
        }
        if (result == 's' && improve(deal, way)) {
            int before = deals.size();
            Deal kept = meet(deal);
            if (deals.size() < before) {
                serve(kept);
            }
        }
        return result;
    }

    private char search(Deal deal, int budget, List<Integer> way) {
        List<List<List<Integer>>> queue = new ArrayList<>();
        Map<List<List<Integer>>, List<Integer>> ways = new HashMap<>();
        queue.add(deal.piles);
        ways.put(deal.piles, new ArrayList<>());
        for (int i = 0; i < queue.size(); i++) {
            if (taken == budget) {
                return 'o';
            }
            taken++;
            for (int move : movesOf(queue.get(i))) {
                List<List<Integer>> next = made(queue.get(i), move);
                List<Integer> row = new ArrayList<>(ways.get(queue.get(i)));
                row.add(move);
                if (cards(next) == 0) {
                    way.addAll(row);
                    return 's';
                }
                if (!ways.containsKey(next)) {
                    ways.put(next, row);
                    queue.add(next);
                }
            }
        }
        return 'd';
    }

    int reach(int entry, int budget) {
        Deal deal = deal(entry);
        if (budget < 1 || budget > 20000) {
            throw new IllegalArgumentException();
        }
        List<List<List<Integer>>> queue = new ArrayList<>();
        Set<List<List<Integer>>> found = new HashSet<>();
        queue.add(deal.piles);
        found.add(deal.piles);
        for (int i = 0; i < queue.size(); i++) {
            if (i == budget) {
                throw new UnsupportedOperationException();
            }
            for (int move : movesOf(queue.get(i))) {
                List<List<Integer>> next = made(queue.get(i), move);
                if (found.add(next)) {
                    queue.add(next);
                }
            }
        }
        return found.size();
    }

    boolean improve(Deal deal, List<Integer> way) {
        if (deal.state == 's' && better(way, deal.key) >= 0) {
            return false;
        }
        deal.state = 's';
        deal.key = new ArrayList<>(way);
        return true;
    }

    /** The entry that holds the deal then. */
    Deal meet(Deal deal) {
        for (Deal other : deals) {
            if (other != deal && other.state == 's' && other.key.equals(deal.key) && like(other, deal)) {
                Deal kept = deals.indexOf(other) < deals.indexOf(deal) ? other : deal;
                Deal gone = kept == deal ? other : deal;
                kept.copies += gone.copies;
                lent.stream().filter(c -> c.deal == gone).forEach(c -> c.deal = kept);
                gone.waiting.stream().filter(p -> !kept.waiting.contains(p)).forEach(kept.waiting::add);
                deals.remove(gone);
                return kept;
            }
        }
        return deal;
    }

    List<Integer> list() {
        List<Integer> list = new ArrayList<>();
        for (int i = 0; i < deals.size(); i++) {
            list.add(i);
        }
        list.sort((a, b) -> {
            Deal one = deals.get(a);
            Deal other = deals.get(b);
            int states = "sod".indexOf(one.state) - "sod".indexOf(other.state);
            return states != 0 ? states : better(one.key, other.key);
        });
        return list;
    }

    int find() {
        return list().stream().filter(e -> deals.get(e).state == 's' && deals.get(e).key.equals(typedMoves))
                .findFirst().orElseThrow(NoSuchElementException::new);
    }

    int listed(int place) {
        if (place < 0 || place >= deals.size()) {
            throw new NoSuchElementException();
        }
        return list().get(place);
    }

    char label(int entry, int index) {
        Deal deal = deal(entry);
        String text = "" + deal.state + entry + ":" + (deal.state == 's' ? "" + deal.key.size() : "-");
        text += "*".repeat(lentOf(deal));
        if (index < 0 || index >= text.length()) {
            throw new NoSuchElementException();
        }
        return text.charAt(index);
    }

    // ---- players

    int player() {
        if (points.size() == 6) {
            throw new IllegalStateException();
        }
        points.add(20);
        return points.size() - 1;
    }

    int points(int player) {
        if (player < 0 || player >= points.size()) {
            throw new IndexOutOfBoundsException();
        }
        return points.get(player);
    }

    void pay(int player, int more) {
        points.set(player, points.get(player) + more);
    }

    int lentOf(Deal deal) {
        return (int) lent.stream().filter(c -> c.deal == deal).count();
    }

    int loans(int player) {
        points(player);
        return (int) lent.stream().filter(c -> c.player == player).count();
    }

    Copy copy(int player, Deal deal) {
        Copy first = null;
        for (Copy copy : lent) {
            if (copy.player == player && copy.deal == deal && (first == null || copy.lent < first.lent)) {
                first = copy;
            }
        }
        return first;
    }

    private Copy copyThatIs(int player, int entry) {
        points(player);
        Copy copy = copy(player, deal(entry));
        if (copy == null) {
            throw new NoSuchElementException();
        }
        return copy;
    }

    boolean could(int player, Deal deal) {
        return loans(player) <= 2 && points(player) >= 0 && copy(player, deal) == null;
    }

    void lendTo(int player, Deal deal) {
        Copy copy = new Copy();
        copy.player = player;
        copy.deal = deal;
        copy.lent = day;
        lent.add(copy);
    }

    int lend(int player, int entry) {
        points(player);
        Deal deal = deal(entry);
        if (lentOf(deal) == deal.copies) {
            throw new NoSuchElementException();
        }
        if (!could(player, deal) || deal.waiting.contains(player)) {
            throw new UnsupportedOperationException();
        }
        lendTo(player, deal);
        return deal.copies - lentOf(deal);
    }

    int await(int player, int entry) {
        points(player);
        Deal deal = deal(entry);
        if (lentOf(deal) < deal.copies || copy(player, deal) != null || deal.waiting.contains(player)) {
            throw new UnsupportedOperationException();
        }
        deal.waiting.add(player);
        return deal.waiting.size();
    }

    int leave(int player, int entry) {
        points(player);
        Deal deal = deal(entry);
        if (!deal.waiting.remove((Integer) player)) {
            throw new NoSuchElementException();
        }
        return deal.waiting.size();
    }

    Integer next(Deal deal) {
        Integer next = null;
        for (Integer player : deal.waiting) {
            if (could(player, deal) && (next == null || points(player) > points(next))) {
                next = player;
            }
        }
        return next;
    }

    void serve(Deal deal) {
        while (lentOf(deal) < deal.copies && next(deal) != null) {
            Integer player = next(deal);
            deal.waiting.remove(player);
            lendTo(player, deal);
        }
    }

    char attempt(int player, int entry) {
        Copy copy = copyThatIs(player, entry);
        Deal deal = copy.deal;
        List<Integer> moves = typedMoves;
        typedMoves = new ArrayList<>();
        lent.remove(copy);
        char result = 'x';
        if (deal.solves(moves)) {
            int shorter = deal.state == 's' ? deal.key.size() - moves.size() : 0;
            result = improve(deal, moves) ? 'b' : 'e';
            pay(player, result == 'b' ? 10 + 2 * shorter : 2);
        } else {
            pay(player, -5);
            explain(deal, moves);
        }
        serve(result == 'b' ? meet(deal) : deal);
        return result;
    }

    private void explain(Deal deal, List<Integer> moves) {
        int place = deal.failing(moves);
        why = new ArrayList<>();
        why.add("t" + place);
        if (place == moves.size()) {
            return;
        }
        int move = moves.get(place);
        List<List<Integer>> piles = deal.after(moves);
        why.add("m" + move);
        if (move / 10 >= piles.size() || piles.get(move / 10).isEmpty()) {
            why.add("e" + move / 10);
        } else if (move % 10 == 9) {
            why.add("s" + top(piles.get(move / 10)));
        } else {
            why.add("p" + move % 10);
        }
    }

    int giveBack(int player, int entry) {
        Copy copy = copyThatIs(player, entry);
        lent.remove(copy);
        pay(player, -8);
        serve(copy.deal);
        return points(player);
    }

    int due(int player, int entry) {
        return copyThatIs(player, entry).lent + 7 - day;
    }

    int days(int days) {
        if (days < 1 || days > 30) {
            throw new IllegalArgumentException();
        }
        for (int i = 0; i < days; i++) {
            day++;
            lent.stream().filter(c -> day > c.lent + 7).forEach(c -> pay(c.player, -1));
        }
        return day;
    }

    int firstWaiting(int entry) {
        Integer next = next(deal(entry));
        if (next == null) {
            throw new NoSuchElementException();
        }
        return next;
    }

    String why(int depth) {
        if (depth < 0 || depth >= why.size()) {
            throw new NoSuchElementException();
        }
        return why.get(depth);
    }

    // ---- sums

    int keyMoves() {
        return deals.stream().mapToInt(d -> d.key.size()).sum();
    }

    long checksum() {
        long sum = 7;
        for (Deal deal : deals) {
            sum = sum * 31 + deal.copies;
            sum = sum * 31 + deal.state;
            for (int move : deal.key) {
                sum = sum * 31 + move;
            }
        }
        for (int each : points) {
            sum = sum * 31 + each;
        }
        return sum;
    }

    float solvedShare() {
        if (deals.isEmpty()) {
            throw new ArithmeticException();
        }
        return (float) deals.stream().filter(d -> d.state == 's').count() / (float) deals.size();
    }

    double meanPoints() {
        if (points.isEmpty()) {
            throw new ArithmeticException();
        }
        return (double) points.stream().mapToInt(p -> p).sum() / (double) points.size();
    }
}
