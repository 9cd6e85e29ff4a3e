/**
 * "A method that throws an exception changes nothing. If several exceptions of a method apply, the one that is listed
 * first is thrown." Each refused call is made on an object of its own, which must answer all that is asked behind it
 * as a twin does that was made in the same way without the refused call.
 */
public final class RefusedTest {
    private static final Class<?> INDEX = IndexOutOfBoundsException.class;
    private static final Class<?> STATE = IllegalStateException.class;
    private static final Class<?> ARGUMENT = IllegalArgumentException.class;
    private static final Class<?> TOO_MUCH = UnsupportedOperationException.class;
    private static final Class<?> NONE = java.util.NoSuchElementException.class;

    public static void main(String[] args) {
        noSuchGame();
        tooManyOptions();
        outOfRange();
        tooManyGames();
        tooManyPositions();
        tooDeep();
        notOfThisKind();
        tooLongText();
        noSuchCharacter();
        noPlay();
        noSuchMove();
        noMoveToName();
        noGames();
        Check.end("RefusedTest");
    }

    /** The ways in which an object may stand when a call is refused. */
    private enum Scene { NEW, GAMES, TOLD, FULLY_TOLD, WIDE, DEEP, BEGUN, PLAYED, OVER, LONG, FULL, FULL_WIDE, FULL_DEEP }

    private static final Scene[] ALL = Scene.values();
    private static final Scene[] FULL_ONES = {Scene.FULL, Scene.FULL_WIDE, Scene.FULL_DEEP};

    private static Thermographica made(Scene scene) {
        Thermographica x = new Thermographica();
        if (scene == Scene.NEW) {
            return x;
        }
        x.whole(2);
        x.heap(3);
        x.tellOption(true, 0);
        x.tellOption(false, 1);
        x.make();
        x.write(2);
        switch (scene) {
            case TOLD:
                x.tellOption(true, 2);
                x.tellOption(false, 1);
                x.tellOption(true, 0);
                break;
            case FULLY_TOLD:
                tellAll(x);
                break;
            case WIDE:
            case FULL_WIDE:
                Shelf.forty(x);
                x.tellOption(true, 7);
                x.tellOption(false, 2);
                x.tellOption(false, 7);
                break;
            case DEEP:
            case FULL_DEEP:
                Shelf.chain(x, 12);
                x.tellOption(false, 9);
                x.tellOption(true, 1);
                break;
            case LONG:
                makeLong(x);
                break;
            case FULL:
                tellAll(x);
                break;
            default:
                play(x, scene);
        }
        if (scene == Scene.FULL || scene == Scene.FULL_WIDE || scene == Scene.FULL_DEEP) {
            fill(x);
        }
        return x;
    }

    private static void tellAll(Thermographica x) {
        for (int i = 0; i < 4; i++) {
            x.tellOption(true, (i + 1) % 3);
            x.tellOption(false, i % 3);
        }
    }

    private static void play(Thermographica x, Scene scene) {
        if (scene == Scene.BEGUN) {
            x.begin(1, false);
        } else if (scene == Scene.PLAYED) {
            x.begin(1, true);
            x.move(2);
            x.move(1);
            x.takeBack();
            x.move(1);
        } else if (scene == Scene.OVER) {
            x.begin(2, false);
            x.move(0);
            x.move(0);
        }
    }

    /** The text of game 13 would be 201 characters long. */
    private static void makeLong(Thermographica x) {
        int half = Check.made(x, Check.of(x.whole(1)), Check.of(0));
        int nought = x.whole(0);
        int minus = x.whole(-1);
        int a = Check.made(x, Check.of(minus), Check.of(minus));
        int b = Check.made(x, Check.of(nought), Check.of(a));
        int c = Check.made(x, Check.of(nought, b), Check.of(a, b));
        int d = Check.made(x, Check.of(nought), Check.of(c));
        int e = Check.made(x, Check.of(d), Check.of(c));
        int f = Check.made(x, Check.of(half), Check.of(d));
        int game = Check.made(x, Check.of(e, f), Check.of(d, c));
        Check.same("the number of the long game", game, 13);
    }

    private static void fill(Thermographica x) {
        x.begin(2, false);
        x.move(0);
        for (int i = gamesOf(x); i < 24; i++) {
            x.heap(i % 7);
        }
    }

    /**
     * What an object answers: the told options and the play are asked by using them up. The last ones of 24 games
     * are only compared, so that there are no more than 512 calls.
     */
    private static String all(Thermographica x) {
        StringBuilder text = new StringBuilder();
        int games = gamesOf(x);
        for (int game = 0; game < games; game++) {
            text.append(game < 16 ? Shelf.about(x, game) : "");
            int next = (game + 1) % games;
            text.append(x.compare(game, next)).append(' ');
        }
        for (int i = 0; i < 7; i++) {
            int index = i;
            text.append(Shelf.answer(() -> x.charAt(index)));
        }
        text.append(Shelf.answer(x::numberShare)).append(' ').append(x.isSound()).append(' ');
        for (int i = 0; i < 4; i++) {
            text.append(x.moves()).append(' ').append(Shelf.answer(x::canWin)).append(' ');
            text.append(Shelf.answer(x::winningMove)).append(' ').append(Shelf.answer(x::mistake)).append(' ');
            text.append(Shelf.answer(x::takeBack)).append(' ');
        }
        text.append(Shelf.answer(() -> x.move(0))).append(' ');
        text.append(Shelf.answer(x::make)).append(' ');
        text.append(Shelf.answer(() -> x.begin(games, true))).append(' ');
        text.append(Shelf.answer(() -> x.positions(games))).append(' ');
        return text.append(x.clearOptions()).append(' ').append(Shelf.answer(() -> x.whole(4))).toString();
    }

    private static int gamesOf(Thermographica x) {
        int games = 0;
        while (games < 24 && isThere(x, games)) {
            games++;
        }
        return games;
    }

    private static boolean isThere(Thermographica x, int game) {
        return !Shelf.answer(() -> x.depth(game)).equals("IndexOutOfBoundsException");
    }

    private static void refused(Scene scene, String what, Class<?> due, Shelf.Call call) {
        Thermographica x = made(scene);
        Thermographica twin = made(scene);
        String name = what + " at " + scene;
        for (int again = 0; again < 2; again++) {
            Check.fails(name, due, () -> call.on(x));
        }
        Check.same(name + " changes nothing", all(x), all(twin));
    }

    /** Every call that takes the number of a game; with 24 games, with 4 options told, and with a wrong time, too. */
    private static void noSuchGame() {
        for (Scene scene : ALL) {
            int count = gamesOf(made(scene));
            for (int i = 0; i < Shelf.GAME_CALLS.length; i++) {
                Shelf.GameCall call = Shelf.GAME_CALLS[i];
                for (int game : new int[] {-1, count, Integer.MIN_VALUE, Integer.MAX_VALUE}) {
                    refused(scene, Shelf.GAME_CALL_NAMES[i] + " of game " + game, INDEX, x -> call.on(x, game));
                }
            }
            for (int time : new int[] {-1, 401}) {
                refused(scene, "wall of no game at " + time, INDEX, x -> x.wall(count, true, time));
            }
        }
    }

    private static void tooManyOptions() {
        for (Scene scene : new Scene[] {Scene.FULLY_TOLD, Scene.FULL}) {
            for (boolean isLeft : new boolean[] {true, false}) {
                refused(scene, "a fifth option", STATE, x -> x.tellOption(isLeft, 0));
                refused(scene, "a fifth option, the last game", STATE, x -> x.tellOption(isLeft, 2));
                refused(scene, "a fifth option of no game", INDEX, x -> x.tellOption(isLeft, 24));
                refused(scene, "a fifth option of no game, below 0", INDEX, x -> x.tellOption(isLeft, -1));
            }
        }
    }

    /** With 24 games, too, where the number is looked at first. */
    private static void outOfRange() {
        for (Scene scene : ALL) {
            for (int n : new int[] {-7, 7, Integer.MIN_VALUE, Integer.MAX_VALUE}) {
                refused(scene, "whole(" + n + ")", ARGUMENT, x -> x.whole(n));
            }
            for (int n : new int[] {-1, 7, Integer.MIN_VALUE, Integer.MAX_VALUE}) {
                refused(scene, "heap(" + n + ")", ARGUMENT, x -> x.heap(n));
            }
            if (scene != Scene.NEW) {
                for (int time : new int[] {-1, 401, Integer.MIN_VALUE, Integer.MAX_VALUE}) {
                    refused(scene, "wall of a number at " + time, ARGUMENT, x -> x.wall(0, true, time));
                    refused(scene, "wall of a heap at " + time, ARGUMENT, x -> x.wall(1, false, time));
                    refused(scene, "wall of another one at " + time, ARGUMENT, x -> x.wall(2, true, time));
                }
            }
        }
    }

    private static void tooManyGames() {
        for (Scene scene : FULL_ONES) {
            for (int n : new int[] {-6, 0, 6}) {
                refused(scene, "whole(" + n + ")", STATE, x -> x.whole(n));
                refused(scene, "heap of " + n, STATE, x -> x.heap(Math.abs(n)));
            }
            refused(scene, "a small sum", STATE, x -> x.sum(0, 0));
            refused(scene, "another small sum", STATE, x -> x.sum(1, 0));
            refused(scene, "turned", STATE, x -> x.turned(23));
        }
        refused(Scene.FULL, "make of what is told", STATE, Thermographica::make);
        Thermographica x = made(Scene.FULL_WIDE);
        Check.same("told", x.clearOptions(), 3);
        Check.badState("make of nothing", x::make);
        Check.same("nothing is told", x.clearOptions(), 0);
    }

    /** With 24 games, too, where the size is looked at first. */
    private static void tooManyPositions() {
        for (Scene scene : new Scene[] {Scene.WIDE, Scene.FULL_WIDE}) {
            refused(scene, "make", TOO_MUCH, Thermographica::make);
            refused(scene, "a sum of 80", TOO_MUCH, x -> x.sum(7, 3));
            refused(scene, "a sum of 80, the other way round", TOO_MUCH, x -> x.sum(3, 7));
            refused(scene, "a sum with itself", TOO_MUCH, x -> x.sum(7, 7));
            refused(scene, "a sum with no game", INDEX, x -> x.sum(7, 24));
            refused(scene, "a sum of no game", INDEX, x -> x.sum(-1, 7));
        }
    }

    private static void tooDeep() {
        for (Scene scene : new Scene[] {Scene.DEEP, Scene.FULL_DEEP}) {
            refused(scene, "make", TOO_MUCH, Thermographica::make);
            refused(scene, "a sum of 13", TOO_MUCH, x -> x.sum(8, 0));
            refused(scene, "a sum of 13, the other way round", TOO_MUCH, x -> x.sum(0, 8));
            refused(scene, "a sum of 14", TOO_MUCH, x -> x.sum(9, 0));
            refused(scene, "a sum of 24", TOO_MUCH, x -> x.sum(9, 9));
        }
    }

    /** number, heapOf and temperature of what is none, or is one. */
    private static void notOfThisKind() {
        for (Scene scene : ALL) {
            if (scene != Scene.NEW) {
                refused(scene, "number of a heap", NONE, x -> x.number(1));
                refused(scene, "number of another one", NONE, x -> x.number(2));
                refused(scene, "heapOf of a number", NONE, x -> x.heapOf(0));
                refused(scene, "heapOf of another one", NONE, x -> x.heapOf(2));
                refused(scene, "temperature of a number", NONE, x -> x.temperature(0));
            }
        }
    }

    private static void tooLongText() {
        refused(Scene.LONG, "write", TOO_MUCH, x -> x.write(13));
        refused(Scene.LONG, "write of no game", INDEX, x -> x.write(14));
        Thermographica x = made(Scene.LONG);
        Check.same("its longest option is written", x.write(11), 77);
        Check.tooMuch("but not the game", () -> x.write(13));
        Check.same("what was written stays", x.charAt(76), '}');
        Check.noGame("and no more of it", () -> x.charAt(77));
    }

    private static void noSuchCharacter() {
        for (Scene scene : ALL) {
            for (int index : new int[] {-1, 200, Integer.MIN_VALUE, Integer.MAX_VALUE}) {
                refused(scene, "charAt(" + index + ")", INDEX, x -> x.charAt(index));
            }
        }
        refused(Scene.NEW, "charAt(0)", INDEX, x -> x.charAt(0));
        refused(Scene.GAMES, "charAt behind the last one", INDEX, x -> x.charAt(6));
        Check.same("the last one", made(Scene.GAMES).charAt(5), '}');
    }

    private static void noPlay() {
        for (Scene scene : new Scene[] {Scene.NEW, Scene.GAMES, Scene.TOLD, Scene.WIDE, Scene.LONG}) {
            for (int move : new int[] {-1, 0, 3, Integer.MIN_VALUE, Integer.MAX_VALUE}) {
                refused(scene, "move(" + move + ")", STATE, x -> x.move(move));
            }
            refused(scene, "canWin", STATE, Thermographica::canWin);
            refused(scene, "winningMove", STATE, Thermographica::winningMove);
            refused(scene, "mistake", STATE, Thermographica::mistake);
            refused(scene, "takeBack", NONE, Thermographica::takeBack);
        }
    }

    private static void noSuchMove() {
        int[] counts = {3, 1, 0, 2};
        Scene[] scenes = {Scene.BEGUN, Scene.PLAYED, Scene.OVER, Scene.FULL};
        for (int i = 0; i < scenes.length; i++) {
            for (int move : new int[] {-1, counts[i] + 1, Integer.MIN_VALUE, Integer.MAX_VALUE}) {
                refused(scenes[i], "move(" + move + ")", INDEX, x -> x.move(move));
            }
        }
        refused(Scene.BEGUN, "move(3) of 3", INDEX, x -> x.move(3));
        refused(Scene.PLAYED, "move(1) of 1", INDEX, x -> x.move(1));
        refused(Scene.FULL, "move(3) of 3", INDEX, x -> x.move(3));
    }

    /** winningMove, mistake and takeBack where there is a play, but no such move. */
    private static void noMoveToName() {
        refused(Scene.BEGUN, "mistake", NONE, Thermographica::mistake);
        refused(Scene.BEGUN, "takeBack", NONE, Thermographica::takeBack);
        refused(Scene.OVER, "winningMove", NONE, Thermographica::winningMove);
        Thermographica x = made(Scene.PLAYED);
        Check.same("both are taken back", x.takeBack() + x.takeBack(), 1);
        Check.none("no more", x::takeBack);
        Check.same("the play is at its beginning", x.move(2), 2);
    }

    private static void noGames() {
        refused(Scene.NEW, "numberShare", ArithmeticException.class, Thermographica::numberShare);
    }
}
