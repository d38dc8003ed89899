import java.util.ArrayList;
import java.util.Collections;
import java.util.List;
import java.util.Random;

/** Long runs of calls, the same ones each time, on the class and on the model, with the same answers due. */
public final class ModelTest {
    private static final int RUNS = 1500;
    private static final int CALLS = 512;
    // Piles from below; each is typed with its suits named anew, so that like deals come often.
    private static final int[][][] DEALS = {
        {{2, 1}, {}}, {{1, 2}, {}}, {{1, 2}, {11, 12}}, {{1, 11}, {}}, {{1}, {11}, {21}},
        {{2, 1}, {12, 11}, {}}, {{1, 12}, {11, 2}, {}}, {{3, 2, 1}, {}, {}}, {{1, 2, 3}, {}, {}},
        {{1, 12, 22}, {11, 2}, {21}, {}}, {{12, 1}, {11, 2, 13, 3}}, {{2, 1}, {}, {}}, {{1}, {}, {}, {}, {}},
        {{2, 12, 1, 11}, {}}, {{2, 12, 11, 1}, {}},
    };
    // A run types few deals again and again, so that entries meet and players wait for them.
    private static final int DEALS_OF_A_RUN = 3;

    private final Checks checks;
    private final int run;
    private final Random random;
    private final Patiencearchive x = new Patiencearchive();
    private final Model model = new Model();
    private final int firstDeal;
    private int call;

    private ModelTest(Checks checks, int run) {
        this.checks = checks;
        this.run = run;
        this.random = new Random(run);
        this.firstDeal = random.nextInt(DEALS.length);
    }

    public static void main(String[] args) {
        Checks checks = new Checks();
        for (int run = 0; run < RUNS && checks.wrong() == 0; run++) {
            new ModelTest(checks, run).play();
        }
        checks.end("ModelTest");
    }

    private void play() {
        for (int many = random.nextInt(7); many > 0; many--) {
            same("player", () -> model.player(), () -> x.player());
        }
        while (call < CALLS) {
            switch (random.nextInt(10)) {
                case 0:
                    typeDeal();
                    break;
                case 1:
                    typeAnything();
                    break;
                case 2:
                case 3:
                case 4:
                    tryEntry();
                    break;
                case 5:
                case 6:
                case 7:
                    change();
                    break;
                default:
                    ask();
                    break;
            }
            same("checksum", () -> model.checksum(), () -> x.checksum());
        }
    }

    private void same(String what, Checks.Call due, Checks.Call got) {
        if (call >= CALLS) {
            return;
        }
        call++;
        checks.is("run " + run + " call " + call + " " + what, Checks.answer(due), got);
    }

    /** Mostly a number that there is, at times one that there is not. */
    private int number(int many) {
        return many > 0 && random.nextInt(12) > 0 ? random.nextInt(many) : random.nextInt(many + 3) - 1;
    }

    private int entry() {
        return number(model.deals.size());
    }

    private int somePlayer() {
        return number(model.points.size());
    }

    // ---- typing

    private void card(int card) {
        same("card " + card, () -> model.card(card), () -> x.card(card));
    }

    private void nextPile() {
        same("pile", () -> model.pile(), () -> x.pile());
    }

    private void move(int from, int to) {
        same("move " + from + " " + to, () -> model.move(from, to), () -> x.move(from, to));
    }

    private void wipe() {
        same("wipe", () -> model.wipe(), () -> x.wipe());
    }

    private void add() {
        same("add", () -> model.add(), () -> x.add());
    }

    private void typeDeal() {
        if (random.nextInt(4) > 0) {
            wipe();
        }
        List<Integer> names = new ArrayList<>(List.of(0, 1, 2));
        Collections.shuffle(names, random);
        int[][] piles = DEALS[(firstDeal + random.nextInt(DEALS_OF_A_RUN)) % DEALS.length];
        for (int i = 0; i < piles.length; i++) {
            if (i > 0) {
                nextPile();
            }
            for (int card : piles[i]) {
                card(10 * names.get(card / 10) + card % 10);
            }
        }
        add();
        if (random.nextInt(20) == 0) {
            typeLargeDeal();
        }
    }

    private void typeLargeDeal() {
        wipe();
        List<Integer> cards = new ArrayList<>();
        int suits = 1 + random.nextInt(3);
        int ranks = 1 + random.nextInt(4);
        for (int suit = 0; suit < suits; suit++) {
            for (int rank = 1; rank <= ranks; rank++) {
                cards.add(10 * suit + rank);
            }
        }
        Collections.shuffle(cards, random);
        int piles = 2 + random.nextInt(4);
        for (int i = 0; i < piles; i++) {
            if (i > 0) {
                nextPile();
            }
            int many = i == piles - 1 ? cards.size() : random.nextInt(cards.size() + 1);
            for (int j = 0; j < many; j++) {
                card(cards.remove(0));
            }
        }
        add();
    }

    private void typeAnything() {
        switch (random.nextInt(5)) {
            case 0:
                card(random.nextInt(36) - 3);
                break;
            case 1:
                nextPile();
                break;
            case 2:
                move(random.nextInt(8) - 1, random.nextInt(12) - 1);
                break;
            case 3:
                wipe();
                break;
            default:
                add();
                break;
        }
    }

    // ---- tries

    private void tryEntry() {
        int player = somePlayer();
        int entry = entry();
        if (!model.lent.isEmpty() && random.nextInt(3) > 0) {
            Model.Copy copy = model.lent.get(random.nextInt(model.lent.size()));
            player = copy.player;
            entry = model.deals.indexOf(copy.deal);
        } else {
            lend(player, entry);
        }
        if (random.nextInt(4) > 0) {
            wipe();
        }
        typeTry(entry);
        if (random.nextInt(3) == 0) {
            same("find", () -> model.find(), () -> x.find());
        }
        int nowPlayer = player;
        int nowEntry = entry;
        same("attempt " + player + " " + entry, () -> model.attempt(nowPlayer, nowEntry),
                () -> x.attempt(nowPlayer, nowEntry));
        look(player, entry);
    }

    /** A walk by moves that can be made, those to stacks more often, with a mistake at times. */
    private void typeTry(int entry) {
        if (entry < 0 || entry >= model.deals.size()) {
            return;
        }
        List<List<Integer>> piles = model.deals.get(entry).piles;
        int longest = random.nextInt(24);
        for (int i = 0; i < longest && Model.cards(piles) > 0; i++) {
            List<Integer> moves = Model.movesOf(piles);
            if (moves.isEmpty() || random.nextInt(30) == 0) {
                break;
            }
            int move = moves.get(random.nextInt(moves.size()));
            for (int each : moves) {
                if (each % 10 == 9 && random.nextInt(3) > 0) {
                    move = each;
                }
            }
            piles = Model.made(piles, move);
            move(move / 10, move % 10);
        }
        if (random.nextInt(8) == 0) {
            move(random.nextInt(5), random.nextBoolean() ? 9 : random.nextInt(5));
        }
    }

    // ---- what else changes the archive

    private void lend(int player, int entry) {
        same("lend " + player + " " + entry, () -> model.lend(player, entry), () -> x.lend(player, entry));
    }

    /** Lets players wait for an entry whose copies are all lent, if there is one. */
    private void queueUp() {
        for (int i = 0; i < model.deals.size(); i++) {
            int entry = (i + random.nextInt(3)) % model.deals.size();
            if (model.lentOf(model.deals.get(entry)) == model.deals.get(entry).copies) {
                for (int many = random.nextInt(3); many >= 0; many--) {
                    await(somePlayer(), entry);
                }
                same("firstWaiting " + entry, () -> model.firstWaiting(entry), () -> x.firstWaiting(entry));
                return;
            }
        }
    }

    private void await(int player, int entry) {
        same("await " + player + " " + entry, () -> model.await(player, entry), () -> x.await(player, entry));
    }

    private void change() {
        int player = somePlayer();
        int entry = entry();
        switch (random.nextInt(14)) {
            case 0:
                same("player", () -> model.player(), () -> x.player());
                same("points", () -> model.points(0), () -> x.points(0));
                break;
            case 1:
                int many = random.nextInt(8) == 0 ? random.nextInt(6) - 1 : 1;
                same("copies " + entry + " " + many, () -> model.copies(entry, many), () -> x.copies(entry, many));
                break;
            case 2:
            case 3:
            case 4:
                solve(entry);
                break;
            case 5:
                int days = random.nextInt(12) == 0 ? random.nextInt(34) - 1 : 1 + random.nextInt(3);
                same("days " + days, () -> model.days(days), () -> x.days(days));
                break;
            case 6:
            case 7:
                lend(player, entry);
                break;
            case 8:
                await(player, entry);
                break;
            case 9:
            case 10:
            case 11:
                queueUp();
                break;
            case 12:
                same("leave " + player + " " + entry, () -> model.leave(player, entry), () -> x.leave(player, entry));
                break;
            default:
                same("giveBack " + player + " " + entry, () -> model.giveBack(player, entry),
                        () -> x.giveBack(player, entry));
                break;
        }
        look(player, entry);
    }

    private int budget() {
        return random.nextInt(25) == 0 ? 0 : 1 + random.nextInt(random.nextInt(3) == 0 ? 8 : 600);
    }

    private void solve(int entry) {
        int budget = budget();
        same("solve " + entry + " " + budget, () -> model.solve(entry, budget), () -> x.solve(entry, budget));
        same("taken", () -> model.taken, () -> x.taken());
    }

    // ---- asking

    private void look(int player, int entry) {
        same("label of " + entry, () -> label(model::label, entry), () -> label(x::label, entry));
        same("loans " + player, () -> model.loans(player), () -> x.loans(player));
        same("waiting " + entry, () -> model.of(entry, 'w'), () -> x.of(entry, 'w'));
    }

    private interface Label {
        char at(int entry, int index);
    }

    private static String label(Label label, int entry) {
        StringBuilder text = new StringBuilder();
        for (int i = 0; i < 40; i++) {
            int index = i;
            text.append(Checks.answer(() -> label.at(entry, index)));
        }
        return text.toString();
    }

    private void ask() {
        int player = somePlayer();
        int entry = entry();
        int index = random.nextInt(6) - 1;
        switch (random.nextInt(16)) {
            case 0:
                char what = "psrclwkx".charAt(random.nextInt(8));
                same("of " + entry + " " + what, () -> model.of(entry, what), () -> x.of(entry, what));
                break;
            case 1:
                same("state " + entry, () -> model.deal(entry).state, () -> x.state(entry));
                break;
            case 2:
                int pile = number(5);
                same("cardOf " + entry + " " + pile + " " + index, () -> model.cardOf(entry, pile, index),
                        () -> x.cardOf(entry, pile, index));
                break;
            case 3:
                same("keyOf " + entry + " " + index, () -> model.keyOf(entry, index), () -> x.keyOf(entry, index));
                break;
            case 4:
                int budget = budget();
                same("reach " + entry + " " + budget, () -> model.reach(entry, budget), () -> x.reach(entry, budget));
                break;
            case 5:
                same("moves " + entry, () -> Model.movesOf(model.deal(entry).piles).size(), () -> x.moves(entry));
                break;
            case 6:
                int other = entry();
                same("areLike " + entry + " " + other, () -> Model.like(model.deal(entry), model.deal(other)),
                        () -> x.areLike(entry, other));
                break;
            case 7:
                int place = number(model.deals.size());
                same("listed " + place, () -> model.listed(place), () -> x.listed(place));
                break;
            case 8:
                same("points " + player, () -> model.points(player), () -> x.points(player));
                break;
            case 9:
                same("due " + player + " " + entry, () -> model.due(player, entry), () -> x.due(player, entry));
                break;
            case 10:
                same("firstWaiting " + entry, () -> model.firstWaiting(entry), () -> x.firstWaiting(entry));
                break;
            case 11:
                same("why " + index, () -> model.why(index).charAt(0), () -> x.why(index));
                break;
            case 12:
                same("whyNumber " + index, () -> Integer.valueOf(model.why(index).substring(1)),
                        () -> x.whyNumber(index));
                break;
            case 13:
                same("keyMoves", () -> model.keyMoves(), () -> x.keyMoves());
                break;
            case 14:
                same("solvedShare", () -> model.solvedShare(), () -> x.solvedShare());
                same("meanPoints", () -> model.meanPoints(), () -> x.meanPoints());
                break;
            default:
                same("isSound", () -> true, () -> x.isSound());
                break;
        }
    }
}
