/** What the tests type again and again, and all that can be read of an archive without changing it. */
final class Scene {
    private Scene() {
    }

    /** Types piles, told from below, upon what is typed. */
    static void type(Patiencearchive x, int[]... piles) {
        for (int i = 0; i < piles.length; i++) {
            if (i > 0) {
                x.pile();
            }
            for (int card : piles[i]) {
                x.card(card);
            }
        }
    }

    static int[] pile(int... cards) {
        return cards;
    }

    static int add(Patiencearchive x, int[]... piles) {
        x.wipe();
        type(x, piles);
        return x.add();
    }

    /** Types moves as they are told, 9 being the pile 0 to its stack. */
    static void moves(Patiencearchive x, int... moves) {
        for (int move : moves) {
            x.move(move / 10, move % 10);
        }
    }

    static char attempt(Patiencearchive x, int player, int entry, int... moves) {
        moves(x, moves);
        return x.attempt(player, entry);
    }

    static void players(Patiencearchive x, int many) {
        for (int i = 0; i < many; i++) {
            x.player();
        }
    }

    static String key(Patiencearchive x, int entry) {
        StringBuilder text = new StringBuilder();
        for (int i = 0; i < x.of(entry, 'k'); i++) {
            text.append(i == 0 ? "" : " ").append(x.keyOf(entry, i));
        }
        return text.toString();
    }

    static String label(Patiencearchive x, int entry) {
        return row(i -> x.label(entry, i), "");
    }

    static String list(Patiencearchive x) {
        return row(x::listed, " ");
    }

    static String why(Patiencearchive x) {
        return row(i -> "" + x.why(i) + x.whyNumber(i), " ");
    }

    private static String row(java.util.function.IntFunction<Object> at, String between) {
        StringBuilder text = new StringBuilder();
        for (int i = 0; ; i++) {
            int index = i;
            Object got = Checks.answer(() -> at.apply(index));
            if ("throws NoSuchElementException".equals(got)) {
                return text.toString();
            }
            text.append(i == 0 ? "" : between).append(got);
        }
    }

    private static int players(Patiencearchive x) {
        for (int i = 0; ; i++) {
            int player = i;
            if (!(Checks.answer(() -> x.points(player)) instanceof Integer)) {
                return i;
            }
        }
    }

    static String all(Patiencearchive x) {
        return all(x, players(x));
    }

    /** What is typed and lent, and the day, told by calls that use them up. */
    static String used(Patiencearchive x) {
        StringBuilder text = new StringBuilder();
        for (int p = 0; p < players(x); p++) {
            for (int e = 0; e < x.entries(); e++) {
                int player = p;
                int entry = e;
                text.append(Checks.answer(() -> x.attempt(player, entry))).append(why(x)).append(' ');
            }
        }
        int before = x.entries();
        text.append(Checks.answer(x::add));
        for (int entry = before; entry < x.entries(); entry++) {
            text.append(cards(x, entry));
        }
        text.append(' ').append(Checks.answer(() -> x.card(1))).append(' ').append(Checks.answer(x::pile));
        text.append(' ').append(Checks.answer(() -> x.move(0, 9))).append(' ').append(x.wipe());
        text.append(' ').append(x.days(30)).append('\n').append(all(x));
        return text.toString();
    }

    /** The cards of an entry, pile by pile from below. */
    static String cards(Patiencearchive x, int entry) {
        StringBuilder text = new StringBuilder();
        for (int i = 0; i < x.of(entry, 'p'); i++) {
            int pile = i;
            text.append(i == 0 ? "" : " / ").append(row(j -> x.cardOf(entry, pile, j), " "));
        }
        return text.toString().trim().replaceAll(" +", " ");
    }

    static String all(Patiencearchive x, int players) {
        StringBuilder text = new StringBuilder();
        text.append(x.checksum()).append(' ').append(x.taken()).append(' ').append(x.keyMoves());
        text.append(' ').append(x.isSound()).append(" [").append(list(x)).append("] ").append(why(x));
        text.append(' ').append(Checks.answer(x::find));
        text.append(' ').append(Checks.answer(x::solvedShare)).append(' ').append(Checks.answer(x::meanPoints));
        for (int e = 0; e < x.entries(); e++) {
            int entry = e;
            text.append("\n ").append(label(x, e)).append(' ').append(key(x, e)).append(' ').append(x.moves(e));
            for (char what : "psrclwk".toCharArray()) {
                text.append(' ').append(x.of(e, what));
            }
            text.append(" first ").append(Checks.answer(() -> x.firstWaiting(entry)));
            for (int p = 0; p < players; p++) {
                int player = p;
                text.append(' ').append(Checks.answer(() -> x.due(player, entry)));
            }
            for (int other = 0; other < x.entries(); other++) {
                text.append(x.areLike(e, other) ? " like" : " other");
            }
        }
        for (int p = 0; p < players; p++) {
            text.append("\n ").append(x.points(p)).append(' ').append(x.loans(p));
        }
        return text.toString();
    }
}
