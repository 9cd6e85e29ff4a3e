/** Promises 1 to 10: a new object, options, games, positions and depth. */
public final class GamesTest {
    public static void main(String[] args) {
        newObject();
        tellingOptions();
        making();
        makingTooMuch();
        wholes();
        heaps();
        sums();
        sumsTooMuch();
        turnedOnes();
        samePositions();
        twentyFourGames();
        Check.end("GamesTest");
    }

    private static void newObject() {
        Thermographica x = new Thermographica();
        Check.noGame("positions(0) of none", () -> x.positions(0));
        Check.noGame("charAt(0) of nothing written", () -> x.charAt(0));
        Check.badState("canWin without a play", x::canWin);
        Check.same("moves of a new object", x.moves(), 0);
        Check.same("clearOptions of a new object", x.clearOptions(), 0);
        Check.same("isSound of a new object", x.isSound(), true);
        Thermographica other = new Thermographica();
        x.whole(1);
        Check.noGame("an object knows only its own games", () -> other.depth(0));
    }

    private static void tellingOptions() {
        Thermographica x = new Thermographica();
        Check.noGame("tellOption(true, 0) without games", () -> x.tellOption(true, 0));
        Check.noGame("tellOption(false, -1)", () -> x.tellOption(false, -1));
        x.whole(0);
        for (int i = 1; i <= 4; i++) {
            Check.same("Left's option " + i, x.tellOption(true, 0), i);
        }
        Check.badState("a fifth one for Left", () -> x.tellOption(true, 0));
        Check.noGame("no such game comes before too many", () -> x.tellOption(true, 1));
        Check.noGame("no game -1 comes before too many", () -> x.tellOption(true, -1));
        for (int i = 1; i <= 4; i++) {
            Check.same("Right's option " + i, x.tellOption(false, 0), i);
        }
        Check.badState("a fifth one for Right", () -> x.tellOption(false, 0));
        Check.same("clearOptions takes those of both", x.clearOptions(), 8);
        Check.same("clearOptions leaves none", x.clearOptions(), 0);
        Check.same("telling begins anew", x.tellOption(false, 0), 1);
        Check.same("for each player alone", x.tellOption(true, 0), 1);
    }

    private static void making() {
        Thermographica x = new Thermographica();
        Check.same("make of nothing told", x.make(), 0);
        Check.same("its positions", x.positions(0), 1);
        Check.same("its depth", x.depth(0), 0);
        x.whole(2);
        x.tellOption(true, 1);
        x.tellOption(true, 0);
        x.tellOption(false, 0);
        Check.same("make", x.make(), 2);
        Check.same("options are taken away by make", x.clearOptions(), 0);
        Check.same("positions of {2,made 0|made 0}", x.positions(2), 5);
        Check.same("depth of {2,made 0|made 0}", x.depth(2), 3);
        Check.same("Left's moves come in the order told", x.begin(2, true), 2);
        Check.same("the first one is to 2", movesAfter(x, 0), 0);
        x.begin(2, true);
        x.move(0);
        Check.same("for Right there is none in 2", x.canWin(), false);
        x.begin(2, false);
        Check.same("Right's one option is 0, with none for Left", x.move(0), 0);
        int twice = Check.made(x, Check.of(0, 0, 0), Check.of());
        Check.same("an option told thrice is three moves", x.begin(twice, true), 3);
        Check.same("but one position", x.positions(twice), 2);
    }

    private static int movesAfter(Thermographica x, int move) {
        return x.move(move);
    }

    /** 40 positions and 12 moves in a row stand, one more does not. */
    private static void makingTooMuch() {
        Thermographica x = new Thermographica();
        int chain = x.whole(6);
        int six = x.whole(6);
        int ten = x.sum(six, x.whole(-4));
        Check.same("depth 6 + 4", x.depth(ten), 10);
        x.tellOption(true, ten);
        x.tellOption(true, x.heap(6));
        Check.tooMuch("43 positions", x::make);
        Check.same("the options that were told stay", x.clearOptions(), 2);
        for (int i = 7; i <= 12; i++) {
            chain = Check.made(x, Check.of(chain), Check.of());
            Check.same("depth of the chain", x.depth(chain), i);
        }
        Check.same("positions of the chain", x.positions(chain), 13);
        x.tellOption(false, chain);
        Check.tooMuch("a depth of 13", x::make);
        Check.same("the option that was told stays", x.clearOptions(), 1);
        Check.same("the chain is the whole number 12", x.number(chain), 12.0);
        int heap = x.heap(2);
        int forty = x.sum(x.sum(heap, x.whole(2)), x.whole(3));
        Check.same("36 positions", x.positions(forty), 36);
        int thirtyEight = Check.made(x, Check.of(forty), Check.of(Check.made(x, Check.of(), Check.of())));
        Check.same("38 positions", x.positions(thirtyEight), 38);
        int thirtyNine = Check.made(x, Check.of(thirtyEight), Check.of());
        int fortyIndeed = Check.made(x, Check.of(thirtyNine), Check.of(forty));
        Check.same("40 positions", x.positions(fortyIndeed), 40);
        x.tellOption(false, fortyIndeed);
        Check.tooMuch("41 positions", x::make);
        Check.same("the option of 40 positions stays", x.clearOptions(), 1);
    }

    private static void wholes() {
        for (int n = -6; n <= 6; n++) {
            Thermographica x = new Thermographica();
            int size = n < 0 ? -n : n;
            Check.same("whole", x.whole(n), 0);
            Check.same("positions of " + n, x.positions(0), size + 1);
            Check.same("depth of " + n, x.depth(0), size);
            Check.same("number of " + n, x.number(0), (double) n);
            Check.same("Left's moves in " + n, x.begin(0, true), n > 0 ? 1 : 0);
            Check.same("Right's moves in " + n, x.begin(0, false), n < 0 ? 1 : 0);
        }
        Thermographica x = new Thermographica();
        Check.illegal("whole(7)", () -> x.whole(7));
        Check.illegal("whole(-7)", () -> x.whole(-7));
        Check.illegal("whole of the least int", () -> x.whole(Integer.MIN_VALUE));
        Check.same("nothing was made", x.whole(3), 0);
    }

    private static void heaps() {
        for (int n = 0; n <= 6; n++) {
            Thermographica x = new Thermographica();
            Check.same("heap", x.heap(n), 0);
            Check.same("positions of heap " + n, x.positions(0), n + 1);
            Check.same("depth of heap " + n, x.depth(0), n);
            Check.same("its number", x.heapOf(0), n);
            Check.same("Left's moves", x.begin(0, true), n);
            Check.same("Right's moves", x.begin(0, false), n);
            for (int i = 0; i < n; i++) {
                x.begin(0, false);
                Check.same("move " + i + " leaves a heap of " + i, x.move(i), i);
            }
        }
        Thermographica x = new Thermographica();
        Check.illegal("heap(-1)", () -> x.heap(-1));
        Check.illegal("heap(7)", () -> x.heap(7));
        Check.same("nothing was made", x.heap(3), 0);
    }

    private static void sums() {
        Thermographica x = new Thermographica();
        int two = x.whole(2);
        int heap = x.heap(3);
        Check.same("sum", x.sum(two, heap), 2);
        Check.same("positions of 2 + *3", x.positions(2), 12);
        Check.same("depth of 2 + *3", x.depth(2), 5);
        Check.same("Left's moves in 2 + *3", x.begin(2, true), 4);
        Check.same("the first one is in 2, and leaves Right 3", x.move(0), 3);
        x.begin(2, true);
        Check.same("the second one takes the heap whole", x.move(1), 0);
        x.begin(2, true);
        Check.same("the last one leaves a heap of 2", x.move(3), 2);
        int other = x.sum(heap, two);
        x.begin(other, true);
        Check.same("in *3 + 2 the heap comes first", x.move(0), 0);
        x.begin(other, true);
        Check.same("in *3 + 2 the number comes last", x.move(3), 3);
        int same = x.sum(heap, heap);
        Check.same("a game plus itself has all pairs", x.positions(same), 16);
        Check.same("its depth", x.depth(same), 6);
        Check.same("its value", x.number(same), 0.0);
        Check.noGame("sum(99, 0)", () -> x.sum(99, 0));
        Check.noGame("sum(0, -1)", () -> x.sum(0, -1));
        Check.noGame("sum(5, 5)", () -> x.sum(5, 5));
        Check.same("nothing was made", x.whole(0), 5);
    }

    private static void sumsTooMuch() {
        Thermographica x = new Thermographica();
        int four = x.whole(4);
        int eight = x.sum(x.heap(1), x.heap(3));
        int forty = x.sum(four, eight);
        Check.same("40 positions", x.positions(forty), 40);
        Check.same("depth 8", x.depth(forty), 8);
        int one = x.whole(1);
        Check.tooMuch("80 positions", () -> x.sum(forty, one));
        int six = x.whole(6);
        int sixHeap = x.heap(6);
        Check.tooMuch("49 positions", () -> x.sum(six, sixHeap));
        int five = x.whole(5);
        Check.tooMuch("42 positions", () -> x.sum(five, six));
        Check.noGame("no such game comes before too much", () -> x.sum(forty, 99));
        int chain = six;
        for (int i = 7; i <= 12; i++) {
            chain = Check.made(x, Check.of(chain), Check.of());
        }
        int deep = chain;
        Check.same("13 positions, 12 moves", x.depth(deep) * 100 + x.positions(deep), 1213);
        Check.tooMuch("26 positions, but 13 moves", () -> x.sum(deep, one));
        int nought = x.whole(0);
        int same = x.sum(deep, nought);
        Check.same("12 moves stand", x.depth(same), 12);
    }

    private static void turnedOnes() {
        Thermographica x = new Thermographica();
        int three = x.whole(3);
        Check.same("turned", x.turned(three), 1);
        Check.same("the turned 3 is -3", x.number(1), -3.0);
        Check.same("positions stay", x.positions(1), 4);
        Check.same("depth stays", x.depth(1), 3);
        int game = Check.made(x, Check.of(0, 1), Check.of(x.heap(2)));
        int turned = x.turned(game);
        Check.same("Left has what Right had", x.begin(turned, true), 1);
        Check.same("a heap of 2", x.move(0), 2);
        Check.same("Right has what Left had", x.begin(turned, false), 2);
        Check.same("the first one is the turned 3, without moves for Left", x.move(0), 0);
        x.begin(turned, false);
        Check.same("the second one is twice turned, with one for Left", x.move(1), 1);
        Check.same("twice turned is equal", x.compare(game, x.turned(turned)), '=');
        Check.noGame("turned(99)", () -> x.turned(99));
        Check.noGame("turned(-1)", () -> x.turned(-1));
    }

    /** What is made of the same things in the same way is one position, and nothing else is. */
    private static void samePositions() {
        Thermographica x = new Thermographica();
        int three = x.whole(3);
        int again = x.whole(3);
        int two = x.whole(2);
        Check.same("3, 3 and 2 are 4 positions", countOver(x, three, again, two), 5);
        int nought = x.whole(0);
        int empty = x.heap(0);
        Check.same("the number 0 and the heap of 0 are two", countOver(x, nought, empty), 3);
        int made = Check.made(x, Check.of(), Check.of());
        int alike = Check.made(x, Check.of(), Check.of());
        Check.same("each game that is made is its own", countOver(x, made, alike, nought, empty), 5);
        int sum = x.sum(three, empty);
        int sumAgain = x.sum(again, empty);
        Check.same("sums of the same are the same", countOver(x, sum, sumAgain), 5);
        int swapped = x.sum(empty, three);
        Check.same("in this order", countOver(x, sum, swapped), 9);
        Check.noGame("no 13th game", () -> x.depth(99));
        int turned = x.turned(three);
        int turnedAgain = x.turned(again);
        int minus = x.whole(-3);
        Check.same("turned ones of the same are the same", countOver(x, turned, turnedAgain), 5);
        Check.same("but the turned 3 is not -3", countOver(x, turned, minus), 9);
        int twice = x.turned(turned);
        Check.same("and the twice turned 3 is not 3", countOver(x, twice, three), 9);
        Check.noGame("positions(-1)", () -> x.positions(-1));
        Check.noGame("depth(-1)", () -> x.depth(-1));
        Check.noGame("positions(24)", () -> x.positions(24));
    }

    /** The positions of a game with these options, made on an object of its own kind. */
    private static int countOver(Thermographica x, int... options) {
        return x.positions(Check.made(x, options, Check.of()));
    }

    private static void twentyFourGames() {
        Thermographica x = new Thermographica();
        int wide = x.sum(x.whole(4), x.sum(x.heap(1), x.heap(3)));
        Check.same("40 positions", x.positions(wide), 40);
        for (int i = 5; i < 24; i++) {
            Check.same("game " + i, x.whole(i % 7), i);
        }
        Check.badState("a 25th whole number", () -> x.whole(1));
        Check.illegal("whole(7) comes before too many games", () -> x.whole(7));
        Check.badState("a 25th heap", () -> x.heap(1));
        Check.illegal("heap(7) comes before too many games", () -> x.heap(7));
        Check.badState("a 25th game by sum", () -> x.sum(0, 0));
        Check.noGame("sum(24, 0) comes before too many games", () -> x.sum(24, 0));
        Check.tooMuch("too many positions come before too many games", () -> x.sum(wide, wide));
        Check.badState("a 25th game by turned", () -> x.turned(23));
        Check.noGame("turned(24) comes before too many games", () -> x.turned(24));
        Check.same("options can be told", x.tellOption(true, 23), 1);
        Check.badState("a 25th game by make", x::make);
        Check.same("the option stays", x.tellOption(true, 0), 2);
        Check.same("for Right too", x.tellOption(false, wide), 1);
        Check.tooMuch("too many positions come before too many games by make", x::make);
        Check.same("the options stay", x.clearOptions(), 3);
        Check.same("the games stay", x.positions(wide), 40);
        Check.same("all is sound", x.isSound(), true);
    }
}
