/** The terms "Games" and promises 1 to 10 at their edges: a method for each sentence that names one. */
public final class GameEdgesTest {
    public static void main(String[] args) {
        nothingThereAtFirst();
        numberedFromNought();
        atMostTwentyFour();
        noSuchGame();
        fourOptionsForEach();
        optionsOfLowerNumbers();
        optionsInTheOrderTold();
        optionToldTwice();
        clearedOptions();
        wholesInRange();
        wholesByTheirOption();
        heapsInRange();
        heapsByTheirOptions();
        sumsByTheirOptions();
        sumsWithNothing();
        turnedByTheirOptions();
        samePositions();
        differentPositions();
        positionsOfAll();
        fortyPositionsMade();
        fortyPositionsSummed();
        depthOfAll();
        twelveDeepMade();
        twelveDeepSummed();
        asManyAndAsDeepAsCanBe();
        tooManyAndTooDeep();
        Check.end("GameEdgesTest");
    }

    /** "Creates a solver without games." */
    private static void nothingThereAtFirst() {
        for (int i = 0; i < Shelf.GAME_CALLS.length; i++) {
            Shelf.GameCall call = Shelf.GAME_CALLS[i];
            Thermographica x = new Thermographica();
            Check.noGame(Shelf.GAME_CALL_NAMES[i] + " of game 0 of none", () -> call.on(x, 0));
            Check.noGame(Shelf.GAME_CALL_NAMES[i] + " of game -1 of none", () -> call.on(x, -1));
            Check.same("the first game is 0", x.whole(0), 0);
        }
        Thermographica x = new Thermographica();
        Check.same("no options", x.clearOptions(), 0);
        Check.same("no moves", x.moves(), 0);
        Check.same("sound", x.isSound(), true);
        Check.noGame("no text", () -> x.charAt(0));
        Check.badState("no play", x::canWin);
        Check.none("no move", x::takeBack);
        Check.fails("no share", ArithmeticException.class, x::numberShare);
    }

    private static final String[] WAYS = {"make", "whole", "heap", "sum", "turned"};

    /** Each way to come by one more game. */
    private static int oneMore(Thermographica x, int way) {
        switch (way) {
            case 0:
                return x.make();
            case 1:
                return x.whole(-6);
            case 2:
                return x.heap(6);
            case 3:
                return x.sum(0, 0);
            default:
                return x.turned(0);
        }
    }

    /** "games are numbered from 0", whatever way they are made. */
    private static void numberedFromNought() {
        for (int way = 0; way < 3; way++) {
            Check.same("the first game by " + WAYS[way], oneMore(new Thermographica(), way), 0);
        }
        Thermographica x = new Thermographica();
        x.whole(1);
        for (int i = 1; i < 24; i++) {
            Check.same("game " + i + " by " + WAYS[i % 5], oneMore(x, i % 5), i);
        }
    }

    /** "At most 24 games": the 23rd, the 24th and the 25th, by each way. */
    private static void atMostTwentyFour() {
        for (int way = 0; way < WAYS.length; way++) {
            int chosen = way;
            Thermographica x = new Thermographica();
            x.heap(1);
            for (int i = 1; i < 22; i++) {
                oneMore(x, i % 5);
            }
            Check.same("the 23rd game by " + WAYS[way], oneMore(x, way), 22);
            Check.noGame("the 24th is not there yet", () -> x.depth(23));
            Check.same("the 24th game by " + WAYS[way], oneMore(x, way), 23);
            for (int again = 0; again < 2; again++) {
                Check.badState("a 25th game by " + WAYS[way], () -> oneMore(x, chosen));
            }
            Check.same("the 24th stands", x.positions(23) > 0, true);
            Check.noGame("the 25th is not there", () -> x.positions(24));
            Check.same("all games are sound", x.isSound(), true);
            Check.same("no game is like another one for it", x.outcome(0), 'N');
        }
    }

    /** "if there is no such game": below 0 and from the count of games on; 0 and the last one are there. */
    private static void noSuchGame() {
        for (int count : new int[] {1, 2, 23, 24}) {
            for (int i = 0; i < Shelf.GAME_CALLS.length; i++) {
                Shelf.GameCall call = Shelf.GAME_CALLS[i];
                String name = Shelf.GAME_CALL_NAMES[i] + " with " + count + " games: ";
                Thermographica x = new Thermographica();
                for (int made = 0; made < count; made++) {
                    x.heap(made % 2);
                }
                Check.noGame(name + count, () -> call.on(x, count));
                for (int game : Shelf.NEVER) {
                    Check.noGame(name + game, () -> call.on(x, game));
                }
                checkThere(x, name, call, 0);
                checkThere(x, name, call, count - 1);
            }
        }
    }

    private static void checkThere(Thermographica x, String name, Shelf.GameCall call, int game) {
        String got = "nothing";
        try {
            call.on(x, game);
        } catch (RuntimeException e) {
            got = e.getClass().getSimpleName();
        }
        Check.same(name + game + " is there", got.equals("IndexOutOfBoundsException"), false);
    }

    /** "up to 4 for Left and up to 4 for Right": "Returns how many are told for this player". */
    private static void fourOptionsForEach() {
        for (boolean isLeft : new boolean[] {true, false}) {
            Thermographica x = new Thermographica();
            x.heap(0);
            x.heap(1);
            for (int i = 1; i <= 4; i++) {
                Check.same("option " + i, x.tellOption(isLeft, i % 2), i);
            }
            Check.badState("a fifth one", () -> x.tellOption(isLeft, 0));
            Check.badState("a fifth one again", () -> x.tellOption(isLeft, 1));
            Check.same("the other player's first one", x.tellOption(!isLeft, 0), 1);
            Check.badState("a fifth one still", () -> x.tellOption(isLeft, 0));
            for (int i = 2; i <= 4; i++) {
                Check.same("the other player's option " + i, x.tellOption(!isLeft, 0), i);
            }
            Check.badState("the other player's fifth one", () -> x.tellOption(!isLeft, 0));
            Check.same("the game of all", x.make(), 2);
            Check.same("four moves", x.begin(2, isLeft), 4);
            Check.same("four moves for the other one", x.begin(2, !isLeft), 4);
            Check.same("telling begins anew behind make", x.tellOption(isLeft, 0), 1);
            Check.same("a game of one option", x.make(), 3);
            Check.same("one move", x.begin(3, isLeft), 1);
            Check.same("none for the other one", x.begin(3, !isLeft), 0);
        }
        Thermographica x = new Thermographica();
        Check.same("a game of no option", x.make(), 0);
        Check.same("no move for Left", x.begin(0, true), 0);
        Check.same("no move for Right", x.begin(0, false), 0);
    }

    /** "which are games with lower numbers": the game that is to be made is not there yet. */
    private static void optionsOfLowerNumbers() {
        Thermographica x = new Thermographica();
        Check.noGame("of game 0 itself", () -> x.tellOption(true, 0));
        for (int next = 0; next < 12; next++) {
            int game = next;
            if (next > 0) {
                Check.same("the game just made", x.tellOption(next % 2 == 0, next - 1), 1);
            }
            Check.noGame("of game " + next + " itself", () -> x.tellOption(true, game));
            Check.same("game " + next, x.make(), next);
        }
    }

    /** "in the order in which they were told": for each player alone. */
    private static void optionsInTheOrderTold() {
        Thermographica x = new Thermographica();
        for (int i = 0; i < 5; i++) {
            x.heap(i);
        }
        int[] left = {3, 1, 4, 2};
        int[] right = {2, 0, 4, 3};
        for (int i = 0; i < 4; i++) {
            x.tellOption(false, right[i]);
            x.tellOption(true, left[i]);
        }
        int game = x.make();
        for (int i = 0; i < 4; i++) {
            x.begin(game, true);
            Check.same("Left's move " + i, x.move(i), left[i]);
            x.begin(game, false);
            Check.same("Right's move " + i, x.move(i), right[i]);
        }
    }

    /** An option that is told twice is two moves, and one position. */
    private static void optionToldTwice() {
        Thermographica x = new Thermographica();
        int heap = x.heap(2);
        int one = x.whole(1);
        int game = Check.made(x, Check.of(heap, one, heap), Check.of(heap, heap, heap, heap));
        Check.same("three moves", x.begin(game, true), 3);
        Check.same("the first is to the heap", x.move(0), 2);
        x.begin(game, true);
        Check.same("the second one is not", x.move(1), 0);
        x.begin(game, true);
        Check.same("the third one is", x.move(2), 2);
        Check.same("four moves for Right", x.begin(game, false), 4);
        Check.same("the last one is to the heap", x.move(3), 2);
        Check.same("the heap's 3, the number's 2, and the game", x.positions(game), 6);
        Check.same("depth", x.depth(game), 3);
        int single = Check.made(x, Check.of(heap, one), Check.of(heap));
        Check.same("equal to the one with each told once", x.compare(game, single), '=');
        Check.same("by play too", x.compareByPlay(game, single), '=');
        Check.same("with one form", Shelf.valueOf(x, game), Shelf.valueOf(x, single));
    }

    /** clearOptions: "Takes all options away that were told. Returns how many there were." */
    private static void clearedOptions() {
        Thermographica x = new Thermographica();
        Check.same("none yet", x.clearOptions(), 0);
        int heap = x.heap(2);
        for (int left = 0; left <= 4; left++) {
            for (int right = 0; right <= 4; right++) {
                for (int i = 0; i < left; i++) {
                    x.tellOption(true, heap);
                }
                for (int i = 0; i < right; i++) {
                    x.tellOption(false, heap);
                }
                Check.same(left + " and " + right, x.clearOptions(), left + right);
                Check.same("none are left", x.clearOptions(), 0);
            }
        }
        x.tellOption(true, heap);
        x.tellOption(false, heap);
        x.clearOptions();
        int game = x.make();
        Check.same("what was cleared is no option of Left", x.begin(game, true), 0);
        Check.same("nor of Right", x.begin(game, false), 0);
        x.tellOption(true, heap);
        x.make();
        Check.same("make takes them away", x.clearOptions(), 0);
    }

    /** "A whole number n, from -6 to 6": the range, one short of its ends and one beyond. */
    private static void wholesInRange() {
        Thermographica x = new Thermographica();
        for (int n : new int[] {-7, 7, -8, 8, 100, Integer.MIN_VALUE, Integer.MAX_VALUE}) {
            Check.illegal("whole(" + n + ")", () -> x.whole(n));
        }
        int due = 0;
        for (int n : new int[] {-6, 6, -5, 5, 0, 1, -1}) {
            Check.same("whole(" + n + ")", x.whole(n), due);
            Check.same("its value", x.number(due), (double) n);
            due++;
        }
    }

    /** "n less 1 for Left, if it is greater than 0; n plus 1 for Right, if it is less than 0; none at 0." */
    private static void wholesByTheirOption() {
        for (int n = -6; n <= 6; n++) {
            Thermographica x = new Thermographica();
            int game = x.whole(n);
            boolean isLeft = n > 0;
            Check.same("no move for who has none in " + n, x.begin(game, !isLeft), 0);
            Check.same("moves in " + n, x.begin(game, isLeft), n == 0 ? 0 : 1);
            int size = Math.abs(n);
            Check.same("positions of " + n, x.positions(game), size + 1);
            Check.same("depth of " + n, x.depth(game), size);
            if (n != 0) {
                Check.same("the other one has no move behind it", x.move(0), 0);
                int next = x.whole(isLeft ? n - 1 : n + 1);
                int over = Check.made(x, Check.of(game), Check.of(next));
                Check.same("the option is the number nearer to 0", x.positions(over), size + 2);
            }
        }
    }

    /** "A heap of n, from 0 to 6": the range, one short of its ends and one beyond. */
    private static void heapsInRange() {
        Thermographica x = new Thermographica();
        for (int n : new int[] {-1, 7, -2, 8, 100, Integer.MIN_VALUE, Integer.MAX_VALUE}) {
            Check.illegal("heap(" + n + ")", () -> x.heap(n));
        }
        int due = 0;
        for (int n : new int[] {0, 6, 1, 5}) {
            Check.same("heap(" + n + ")", x.heap(n), due);
            Check.same("its value", x.heapOf(due), n);
            due++;
        }
    }

    /** "has for both the heaps of 0, 1 and so on to n less 1": in this order. */
    private static void heapsByTheirOptions() {
        for (int n = 0; n <= 6; n++) {
            Thermographica x = new Thermographica();
            int game = x.heap(n);
            Check.same("positions of heap " + n, x.positions(game), n + 1);
            Check.same("depth of heap " + n, x.depth(game), n);
            for (boolean isLeft : new boolean[] {true, false}) {
                Check.same("moves in heap " + n, x.begin(game, isLeft), n);
                for (int i = 0; i < n; i++) {
                    Check.same("move " + i + " in heap " + n, x.move(i), i);
                    x.takeBack();
                }
                int beyond = n;
                Check.noGame("move " + n + " in heap " + n, () -> x.move(beyond));
            }
            if (n > 0) {
                int over = Check.made(x, Check.of(game), Check.of(x.heap(n - 1), x.heap(0)));
                Check.same("the smaller heaps are positions of it", x.positions(over), n + 2);
            }
        }
    }

    /** "first what becomes of the first one by their options ..., and then what becomes of the second one". */
    private static void sumsByTheirOptions() {
        Thermographica x = new Thermographica();
        int two = x.heap(2);
        int three = x.heap(3);
        int[] dueFirst = {3, 4, 2, 3, 4};
        int[] dueSecond = {2, 3, 4, 3, 4};
        int sum = x.sum(two, three);
        int swapped = x.sum(three, two);
        for (boolean isLeft : new boolean[] {true, false}) {
            for (int i = 0; i < 5; i++) {
                Check.same("*2 + *3", x.begin(sum, isLeft), 5);
                Check.same("*2 + *3, move " + i, x.move(i), dueFirst[i]);
                Check.same("*3 + *2", x.begin(swapped, isLeft), 5);
                Check.same("*3 + *2, move " + i, x.move(i), dueSecond[i]);
            }
        }
        int itself = x.sum(two, two);
        Check.same("a sum with itself has the moves of both", x.begin(itself, true), 4);
        int[] due = {2, 3, 2, 3};
        for (int i = 0; i < 4; i++) {
            x.begin(itself, true);
            Check.same("*2 + *2, move " + i, x.move(i), due[i]);
        }
        Check.same("all pairs are positions of it", x.positions(itself), 9);
        Check.same("its depth", x.depth(itself), 4);
        int numbers = x.sum(x.whole(2), x.whole(-1));
        Check.same("Left moves in the one", x.begin(numbers, true), 1);
        Check.same("Right in the other", x.move(0), 1);
    }

    /** Sums with a game without moves have just the other one's. */
    private static void sumsWithNothing() {
        Thermographica x = new Thermographica();
        int nought = x.whole(0);
        int empty = x.heap(0);
        int heap = x.heap(3);
        int none = x.sum(nought, empty);
        Check.same("0 + 0 is one position", x.positions(none), 1);
        Check.same("without depth", x.depth(none), 0);
        for (int sum : new int[] {x.sum(nought, heap), x.sum(heap, nought), x.sum(heap, none)}) {
            Check.same("positions", x.positions(sum), 4);
            Check.same("depth", x.depth(sum), 3);
            Check.same("moves", x.begin(sum, false), 3);
            Check.same("the last move", x.move(2), 2);
            Check.same("equal to the heap", x.compare(sum, heap), '=');
        }
    }

    /** "A turned game has for Left what comes of Right's options turned, and for Right what comes of Left's." */
    private static void turnedByTheirOptions() {
        Thermographica x = new Thermographica();
        for (int i = 0; i < 4; i++) {
            x.heap(i);
        }
        int one = x.whole(1);
        int game = Check.made(x, Check.of(3, one, 1), Check.of(2, 0));
        int turned = x.turned(game);
        Check.same("Left has Right's", x.begin(turned, true), 2);
        Check.same("in order", x.move(0), 2);
        int[] due = {3, 1, 1};
        for (int i = 0; i < 3; i++) {
            Check.same("Right has Left's", x.begin(turned, false), 3);
            Check.same("in order: " + i, x.move(i), i == 1 ? 0 : due[i]);
        }
        x.begin(turned, false);
        x.move(1);
        Check.same("the number 1 is turned too: Left is lost in it", x.canWin(), false);
        int twice = x.turned(turned);
        Check.same("twice turned for Left", x.begin(twice, true), 3);
        Check.same("its last move", x.move(2), 1);
        Check.same("twice turned for Right", x.begin(twice, false), 2);
        Check.same("as deep", x.depth(twice), x.depth(game));
        Check.same("as many positions", x.positions(twice), x.positions(game));
        Check.same("equal", x.compare(twice, game), '=');
        Check.same("equal by play", x.compareByPlay(twice, game), '=');
        int nought = x.turned(x.whole(0));
        Check.same("0 turned", x.positions(nought) * 10 + x.depth(nought), 10);
    }

    /** The positions of a game with these options, the game itself not counted. */
    private static int together(Thermographica x, int... games) {
        int half = Math.min(4, games.length);
        int[] left = java.util.Arrays.copyOf(games, half);
        int[] right = java.util.Arrays.copyOfRange(games, half, games.length);
        return x.positions(Check.made(x, left, right)) - 1;
    }

    /** "the same whole number, or heap, however often it was made; ... sums of the same two ..., and turned ones". */
    private static void samePositions() {
        Thermographica x = new Thermographica();
        int three = x.whole(3);
        int heap = x.heap(2);
        Check.same("a whole number made again", together(x, three, x.whole(3)), 4);
        Check.same("one that is an option of it", together(x, three, x.whole(2), x.whole(0)), 4);
        Check.same("negative ones and positive ones share 0", together(x, three, x.whole(-2)), 6);
        Check.same("a heap made again", together(x, heap, x.heap(2)), 3);
        Check.same("a heap that is an option of it", together(x, heap, x.heap(1), x.heap(0)), 3);
        int sum = x.sum(three, heap);
        Check.same("a sum made again", together(x, sum, x.sum(three, heap)), 12);
        Check.same("of others that are the same", together(x, sum, x.sum(x.whole(3), x.heap(2))), 12);
        Check.same("a sum that is an option of it", together(x, sum, x.sum(x.whole(2), heap)), 12);
    }

    /** "the same game made of options", "turned ones of the same", and what is two positions. */
    private static void differentPositions() {
        Thermographica x = new Thermographica();
        int nought = x.whole(0);
        int empty = x.heap(0);
        Check.same("the number 0 and the heap of 0 are two", together(x, nought, empty), 2);
        int first = Check.made(x, Check.of(), Check.of());
        int second = Check.made(x, Check.of(), Check.of());
        Check.same("each game made of options is another one", together(x, first, second, nought, empty), 4);
        Check.same("a game is the same as itself", together(x, first, first, first), 1);
        int sum = x.sum(nought, empty);
        int swapped = x.sum(empty, nought);
        Check.same("sums in either order are two", together(x, sum, swapped), 2);
        Check.same("a sum with 0 is not the game", together(x, sum, nought, empty), 3);
        int turned = x.turned(nought);
        Check.same("0 and 0 turned are two", together(x, nought, turned), 2);
        Check.same("turned again by another number", together(x, turned, x.turned(x.whole(0))), 1);
        int twice = x.turned(turned);
        Check.same("twice turned is a third one", together(x, nought, turned, twice), 3);
        int one = x.whole(1);
        Check.same("-1 and 1 turned are two, with two below", together(x, x.turned(one), x.whole(-1)), 4);
        turnedSums();
    }

    private static void turnedSums() {
        Thermographica x = new Thermographica();
        int nought = x.whole(0);
        int empty = x.heap(0);
        int turnedSum = x.turned(x.sum(nought, empty));
        int sumOfTurned = x.sum(x.turned(nought), x.turned(empty));
        Check.same("a turned sum is no sum of turned ones", together(x, turnedSum, sumOfTurned), 2);
    }

    /** "Positions of a game are the game and all that comes by options, over any number of moves". */
    private static void positionsOfAll() {
        Thermographica x = new Thermographica();
        Check.same("a game without options", x.positions(x.make()), 1);
        int[] due = {2, 3, 4, 5, 6, 7, 8, 9, 10, 11, 12, 13};
        for (int i = 0; i < 12; i++) {
            int next = Check.made(x, i % 2 == 0 ? Check.of(i) : Check.of(), i % 2 == 0 ? Check.of() : Check.of(i));
            Check.same("behind " + (i + 1) + " moves", x.positions(next), due[i]);
        }
        int both = Check.made(x, Check.of(5), Check.of(7));
        Check.same("those that come by two ways count once", x.positions(both), 9);
        Thermographica y = new Thermographica();
        int heap = y.heap(3);
        int game = Check.made(y, Check.of(heap), Check.of(y.whole(-3)));
        Check.same("of both players", y.positions(game), 9);
        Check.same("also by two moves of one player in a row", y.positions(y.sum(game, y.whole(0))), 9);
    }

    /** "A game has at most 40 positions": made of options with 39, 40 and 41. */
    private static void fortyPositionsMade() {
        for (int empties = 2; empties <= 4; empties++) {
            Thermographica x = new Thermographica();
            int wide = Shelf.thirtySix(x);
            Check.same("36 positions", x.positions(wide), 36);
            for (int i = 0; i < empties; i++) {
                x.make();
            }
            x.tellOption(true, wide);
            for (int i = 1; i <= empties; i++) {
                x.tellOption(i % 2 == 0, wide + i);
            }
            if (empties < 4) {
                int made = x.make();
                Check.same("a game of positions", x.positions(made), 37 + empties);
                Check.same("it is sound", x.isSound(), true);
            } else {
                Check.tooMuch("a game of 41 positions", x::make);
                Check.tooMuch("a game of 41 positions again", x::make);
                Check.same("its options stay told", x.clearOptions(), 5);
                Check.same("no game was made", x.heap(0), wide + 5);
            }
        }
    }

    /** "A game has at most 40 positions": sums with 39, 40 and 42; there is none with 41. */
    private static void fortyPositionsSummed() {
        Thermographica x = new Thermographica();
        int thirteen = Check.made(x, Check.of(x.heap(6)), Check.of(x.whole(4)));
        Check.same("13 positions", x.positions(thirteen), 13);
        int two = x.heap(2);
        Check.same("39 positions", x.positions(x.sum(thirteen, two)), 39);
        int forty = x.sum(x.whole(4), x.sum(x.heap(1), x.heap(3)));
        Check.same("40 positions", x.positions(forty), 40);
        int nought = x.whole(0);
        Check.same("40 times 1", x.positions(x.sum(forty, nought)), 40);
        Check.same("1 times 40", x.positions(x.sum(nought, forty)), 40);
        int six = x.whole(6);
        int five = x.heap(5);
        Check.tooMuch("42 positions", () -> x.sum(six, five));
        Check.tooMuch("42 positions, the other way round", () -> x.sum(five, six));
        int one = x.whole(1);
        Check.tooMuch("80 positions", () -> x.sum(forty, one));
        Check.tooMuch("1600 positions", () -> x.sum(forty, forty));
        int six36 = x.sum(five, five);
        Check.same("a sum of a game with itself, 36 positions", x.positions(six36), 36);
        Check.tooMuch("and with 49", () -> x.sum(six, six));
        Check.same("turned ones have as many", x.positions(x.turned(forty)), 40);
    }

    /** "its depth, the most moves in a row from it on, whoever makes them". */
    private static void depthOfAll() {
        Thermographica x = new Thermographica();
        int nought = x.make();
        Check.same("no move", x.depth(nought), 0);
        int one = Check.made(x, Check.of(nought), Check.of());
        int two = Check.made(x, Check.of(), Check.of(one));
        Check.same("one of Left", x.depth(one), 1);
        Check.same("one of Right, and then one of Left", x.depth(two), 2);
        int leftTwice = Check.made(x, Check.of(one), Check.of());
        Check.same("two of Left in a row", x.depth(leftTwice), 2);
        int rightTwice = x.turned(leftTwice);
        Check.same("two of Right in a row", x.depth(rightTwice), 2);
        int most = Check.made(x, Check.of(nought, two, one), Check.of(nought));
        Check.same("the most of all options", x.depth(most), 3);
        int right = Check.made(x, Check.of(one), Check.of(nought, most, one));
        Check.same("of those of Right too", x.depth(right), 4);
        Check.same("in a sum those of both", x.depth(x.sum(right, most)), 7);
    }

    /** "is at most 12": made of options, 11, 12 and 13 deep, by Left, by Right and by both in turns. */
    private static void twelveDeepMade() {
        for (int way = 0; way < 3; way++) {
            Thermographica x = new Thermographica();
            int last = x.make();
            for (int i = 1; i <= 12; i++) {
                boolean isLeft = way == 0 || way == 2 && i % 2 == 0;
                x.tellOption(isLeft, last);
                last = x.make();
                Check.same("depth", x.depth(last), i);
            }
            for (boolean isLeft : new boolean[] {true, false}) {
                x.tellOption(isLeft, last);
                Check.tooMuch("a depth of 13", x::make);
                x.tellOption(!isLeft, 0);
                Check.tooMuch("a depth of 13 with another option", x::make);
                Check.same("the options stay told", x.clearOptions(), 2);
            }
            x.tellOption(true, last - 1);
            x.tellOption(false, last - 1);
            int again = x.make();
            Check.same("another one of 12", x.depth(again), 12);
            Check.same("a turned one of 12", x.depth(x.turned(again)), 12);
        }
    }

    /** "is at most 12": sums that are 11, 12 and 13 deep, with few positions. */
    private static void twelveDeepSummed() {
        Thermographica x = new Thermographica();
        int eleven = Shelf.chain(x, 11);
        int one = x.heap(1);
        int nought = x.whole(0);
        Check.same("11 and 0", x.depth(x.sum(eleven, nought)), 11);
        int twelve = x.sum(eleven, one);
        Check.same("11 and 1", x.depth(twelve), 12);
        Check.same("1 and 11", x.depth(x.sum(one, eleven)), 12);
        Check.same("12 and 0", x.depth(x.sum(twelve, nought)), 12);
        int two = x.heap(2);
        Check.same("36 positions would be few enough", x.positions(eleven) * x.positions(two), 36);
        Check.tooMuch("11 and 2", () -> x.sum(eleven, two));
        Check.tooMuch("2 and 11", () -> x.sum(two, eleven));
        int chain = Check.made(x, Check.of(eleven), Check.of());
        Check.tooMuch("12 and 1", () -> x.sum(chain, one));
        Check.tooMuch("1 and 12", () -> x.sum(one, chain));
        int six = x.sum(x.whole(6), x.whole(4));
        Check.same("a sum of 10, with 35 positions", x.depth(six), 10);
        Check.same("no game was made by the refused calls", x.whole(1), six + 1);
    }

    /** A sum that has 40 positions and is 12 deep stands, and all can be asked of it. */
    private static void asManyAndAsDeepAsCanBe() {
        Thermographica x = new Thermographica();
        int nine = Shelf.chain(x, 9);
        int three = x.whole(-3);
        int sum = x.sum(nine, three);
        Check.same("40 positions", x.positions(sum), 40);
        Check.same("12 moves in a row", x.depth(sum), 12);
        Check.same("its value", x.number(sum), 6.0);
        Check.same("by play", x.compareByPlay(sum, x.whole(6)), '=');
        int turned = x.turned(sum);
        Check.same("turned", x.positions(turned) * 100 + x.depth(turned), 4012);
        Check.same("by play with the turned one", x.compareByPlay(sum, turned), '>');
        x.tellOption(true, sum);
        Check.tooMuch("one more move", x::make);
        Check.same("sound", x.isSound(), true);
    }

    /** "if it would have more than 40 positions, or would be too deep": and if both. */
    private static void tooManyAndTooDeep() {
        Thermographica x = new Thermographica();
        int twelve = Shelf.chain(x, 12);
        int forty = Shelf.forty(x);
        Check.tooMuch("a sum", () -> x.sum(twelve, forty));
        Check.tooMuch("a sum the other way round", () -> x.sum(forty, twelve));
        x.tellOption(true, twelve);
        x.tellOption(false, forty);
        Check.tooMuch("a game made of both", x::make);
        Check.same("the options stay told", x.clearOptions(), 2);
        x.tellOption(true, forty);
        Check.tooMuch("a game with too many, but not too deep", x::make);
        x.clearOptions();
        x.tellOption(true, twelve);
        Check.tooMuch("a game too deep, but not with too many", x::make);
        x.clearOptions();
        Check.same("no game was made", x.make(), forty + 1);
    }

}
