import java.util.function.Supplier;

/** Games that several tests need, and ways to ask about all of an object at once. */
final class Shelf {
    /** Game numbers that are never right while there are fewer than 24 games. */
    static final int[] NEVER = {-1, 24, 25, 1000, Integer.MIN_VALUE, Integer.MAX_VALUE};

    private Shelf() {
    }

    /** A call on an object. */
    interface Call {
        void on(Thermographica x);
    }

    /** A call that takes the number of a game. */
    interface GameCall {
        void on(Thermographica x, int game);
    }

    /** Every call that takes the number of a game, with its name; two-game calls once for each place. */
    static final String[] GAME_CALL_NAMES = {"tellOption for Left", "tellOption for Right", "sum, first", "sum, second",
        "sum, both", "turned", "positions", "depth", "compare, first", "compare, second", "compareByPlay, first",
        "compareByPlay, second", "outcome", "kindOf", "number", "heapOf", "birthday", "options of Left",
        "options of Right", "write", "left stop", "right stop", "left wall", "right wall", "temperature", "mean",
        "begin for Left", "begin for Right"};

    static final GameCall[] GAME_CALLS = {(x, g) -> x.tellOption(true, g), (x, g) -> x.tellOption(false, g),
        (x, g) -> x.sum(g, 0), (x, g) -> x.sum(0, g), (x, g) -> x.sum(g, g), Thermographica::turned,
        Thermographica::positions, Thermographica::depth, (x, g) -> x.compare(g, 0), (x, g) -> x.compare(0, g),
        (x, g) -> x.compareByPlay(g, 0), (x, g) -> x.compareByPlay(0, g), Thermographica::outcome,
        Thermographica::kindOf, Thermographica::number, Thermographica::heapOf, Thermographica::birthday,
        (x, g) -> x.options(g, true), (x, g) -> x.options(g, false), Thermographica::write,
        (x, g) -> x.stop(g, true), (x, g) -> x.stop(g, false), (x, g) -> x.wall(g, true, 8),
        (x, g) -> x.wall(g, false, 8), Thermographica::temperature, Thermographica::mean,
        (x, g) -> x.begin(g, true), (x, g) -> x.begin(g, false)};

    /** So many moves for Left in a row, and one position more. */
    static int chain(Thermographica x, int depth) {
        int last = x.whole(Math.min(depth, 6));
        for (int i = 7; i <= depth; i++) {
            last = Check.made(x, Check.of(last), Check.of());
        }
        return last;
    }

    /** 36 positions, 7 moves in a row; takes five games. */
    static int thirtySix(Thermographica x) {
        int nine = x.sum(x.heap(2), x.whole(2));
        return x.sum(nine, x.whole(3));
    }

    /** 40 positions, 8 moves in a row; takes five games. */
    static int forty(Thermographica x) {
        int eight = x.sum(x.heap(1), x.heap(3));
        return x.sum(x.whole(4), eight);
    }

    /** {0|*}; takes three games. */
    static int up(Thermographica x) {
        return Check.made(x, Check.of(x.whole(0)), Check.of(x.heap(1)));
    }

    /** {left|right} of whole numbers; takes three games. */
    static int hot(Thermographica x, int left, int right) {
        return Check.made(x, Check.of(x.whole(left)), Check.of(x.whole(right)));
    }

    /** 1 by 2 to the power of the times; takes two games and one for each time. */
    static int fraction(Thermographica x, int times) {
        int nought = x.whole(0);
        int last = x.whole(1);
        for (int i = 0; i < times; i++) {
            last = Check.made(x, Check.of(nought), Check.of(last));
        }
        return last;
    }

    /** The answer of a call, or the name of what it throws. */
    static String answer(Supplier<Object> call) {
        try {
            return String.valueOf(call.get());
        } catch (RuntimeException e) {
            return e.getClass().getSimpleName();
        }
    }

    /** All that can be asked of one game; 17 calls. */
    static String about(Thermographica x, int game) {
        return answer(() -> x.positions(game)) + " " + answer(() -> x.depth(game)) + " " + valueOf(x, game);
    }

    /** All that can be asked of a game's form and heat, 0 being the same below and above; 15 calls. */
    static String valueOf(Thermographica x, int game) {
        StringBuilder text = new StringBuilder();
        text.append(answer(() -> x.outcome(game))).append(' ').append(answer(() -> x.kindOf(game))).append(' ');
        text.append(answer(() -> x.number(game) + 0.0)).append(' ').append(answer(() -> x.heapOf(game))).append(' ');
        text.append(answer(() -> x.birthday(game))).append(' ').append(answer(() -> x.temperature(game) + 0.0)).append(' ');
        text.append(answer(() -> x.mean(game) + 0.0)).append(' ');
        for (boolean isLeft : new boolean[] {true, false}) {
            text.append(answer(() -> x.options(game, isLeft))).append(' ');
            text.append(answer(() -> x.stop(game, isLeft) + 0.0)).append(' ');
            text.append(answer(() -> x.wall(game, isLeft, 9) + 0.0)).append(' ');
            text.append(answer(() -> x.wall(game, isLeft, 0) + 0.0)).append(' ');
        }
        return text.toString();
    }
}
