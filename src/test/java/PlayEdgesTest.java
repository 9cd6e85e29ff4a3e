/** The term "Playing" and promises 25 to 33 at their edges: a method for each sentence that names one. */
public final class PlayEdgesTest {
    public static void main(String[] args) {
        noPlay();
        movesOfWhoBegins();
        beginInPlaceOfAnother();
        moveNumbers();
        movesOfTheOther();
        turnsGoToAndFro();
        noMoveLeft();
        noneToTakeBack();
        takenBackToTheBeginning();
        anotherWayBehindTakingBack();
        canWinByTheRightMoves();
        lowestWinningMove();
        everyMoveWins();
        noMoveThrewAWinAway();
        firstMistake();
        mistakeAtTheLastMove();
        mistakeOfEach();
        mistakesTakenBack();
        sameGameManyTimes();
        movesOfAllPlays();
        shareWithoutGames();
        shareOfNumbers();
        soundAtEveryStep();
        Check.end("PlayEdgesTest");
    }

    /** "if there is no play": till a play is begun. */
    private static void noPlay() {
        Thermographica x = new Thermographica();
        for (int games = 0; games < 2; games++) {
            for (int move : new int[] {0, -1, 1, Integer.MIN_VALUE, Integer.MAX_VALUE}) {
                Check.badState("move(" + move + ")", () -> x.move(move));
            }
            Check.badState("canWin", x::canWin);
            Check.badState("winningMove", x::winningMove);
            Check.badState("mistake", x::mistake);
            Check.none("takeBack", x::takeBack);
            Check.noGame("begin(1, true)", () -> x.begin(1, true));
            Check.noGame("begin(-1, false)", () -> x.begin(-1, false));
            Check.same("no move was made", x.moves(), 0);
            Check.same("sound", x.isSound(), true);
            x.heap(1);
        }
        Check.same("begin", x.begin(0, true), 1);
        Check.same("there is one now", x.canWin(), true);
    }

    /** "Returns how many moves there are": for who begins, from none to many. */
    private static void movesOfWhoBegins() {
        Thermographica x = new Thermographica();
        int nought = x.whole(0);
        int two = x.whole(2);
        int minus = x.whole(-2);
        int heap = x.heap(6);
        int game = Check.made(x, Check.of(two, two, heap), Check.of(nought));
        int sum = x.sum(x.heap(4), x.heap(4));
        int[] games = {nought, two, minus, heap, game, sum, x.make()};
        int[] left = {0, 1, 0, 6, 3, 8, 0};
        int[] right = {0, 0, 1, 6, 1, 8, 0};
        for (int i = 0; i < games.length; i++) {
            Check.same("for Left in game " + games[i], x.begin(games[i], true), left[i]);
            Check.same("for Right in game " + games[i], x.begin(games[i], false), right[i]);
        }
    }

    /** "Begins a play, in place of another one." */
    private static void beginInPlaceOfAnother() {
        Thermographica x = new Thermographica();
        int heap = x.heap(3);
        int two = x.whole(2);
        x.begin(heap, true);
        x.move(1);
        Check.same("*, which is won", x.canWin(), true);
        Check.same("the move threw the win away", x.mistake(), 0);
        Check.same("another play", x.begin(two, true), 1);
        Check.none("without moves", x::takeBack);
        Check.none("without mistakes", x::mistake);
        Check.same("Left wins", x.canWin(), true);
        Check.same("the same game for Right", x.begin(two, false), 0);
        Check.same("Right is lost", x.canWin(), false);
        Check.noGame("a play of no game", () -> x.begin(2, true));
        Check.same("the play stays", x.canWin(), false);
        Check.noGame("Right has no move in it", () -> x.move(0));
    }

    /** "if there is no such move": below 0 and from the count of moves on. */
    private static void moveNumbers() {
        Thermographica x = new Thermographica();
        int heap = x.heap(4);
        x.begin(heap, false);
        for (int wrong : new int[] {-1, 4, 5, -2, Integer.MIN_VALUE, Integer.MAX_VALUE}) {
            Check.noGame("move(" + wrong + ") of 4", () -> x.move(wrong));
        }
        Check.none("no move was made", x::takeBack);
        Check.same("no move was counted", x.moves(), 0);
        Check.same("the last move", x.move(3), 3);
        for (int wrong : new int[] {-1, 3, 4}) {
            Check.noGame("move(" + wrong + ") of 3", () -> x.move(wrong));
        }
        Check.same("the first move", x.move(0), 0);
        Check.noGame("move(0) of none", () -> x.move(0));
        Check.noGame("move(-1) of none", () -> x.move(-1));
        Check.same("two moves were counted", x.moves(), 2);
        Check.same("two were made", x.takeBack(), 1);
    }

    /** "Returns how many moves the other one has then", not how many who moved has. */
    private static void movesOfTheOther() {
        Thermographica x = new Thermographica();
        int nought = x.whole(0);
        int option = Check.made(x, Check.of(nought, nought, nought), Check.of(nought));
        int game = Check.made(x, Check.of(option, nought), Check.of(option));
        x.begin(game, true);
        Check.same("Right has one", x.move(0), 1);
        x.begin(game, false);
        Check.same("Left has three", x.move(0), 3);
        x.begin(game, true);
        Check.same("none", x.move(1), 0);
    }

    /** "The one whose turn it is makes a move": by turns, also behind taking back. */
    private static void turnsGoToAndFro() {
        Thermographica x = new Thermographica();
        int sum = x.sum(x.whole(3), x.whole(-3));
        x.begin(sum, true);
        for (int i = 0; i < 5; i++) {
            Check.same("move " + i, x.move(0), 1);
        }
        Check.same("the sixth move is the last", x.move(0), 0);
        Check.same("Left's turn, who has lost", x.canWin(), false);
        x.takeBack();
        Check.same("Right's turn, who moves last", x.canWin(), true);
        x.takeBack();
        Check.same("Left's turn again", x.canWin(), false);
        x.begin(sum, false);
        Check.same("Right begins", x.move(0), 1);
        Check.same("Left's turn, who wins now", x.canWin(), true);
        int left = x.whole(2);
        x.begin(left, true);
        Check.same("Left's 2 has no move for Right", x.move(0), 0);
        Check.noGame("so none can be made", () -> x.move(0));
    }

    /** A play that is over: no move, no win, but all the rest. */
    private static void noMoveLeft() {
        Thermographica x = new Thermographica();
        int nought = x.whole(0);
        int empty = x.heap(0);
        for (int game : new int[] {nought, empty, x.make(), x.sum(nought, empty), x.turned(nought)}) {
            for (boolean isLeft : new boolean[] {true, false}) {
                Check.same("no move", x.begin(game, isLeft), 0);
                Check.noGame("move(0)", () -> x.move(0));
                Check.same("canWin", x.canWin(), false);
                Check.none("winningMove", x::winningMove);
                Check.none("mistake", x::mistake);
                Check.none("takeBack", x::takeBack);
                Check.same("sound", x.isSound(), true);
            }
        }
    }

    /** "if none was made": without a play, at its beginning, and when all were taken back. */
    private static void noneToTakeBack() {
        Thermographica x = new Thermographica();
        Check.none("without a play", x::takeBack);
        int heap = x.heap(2);
        Check.none("without a play, with a game", x::takeBack);
        x.begin(heap, true);
        Check.none("at the beginning", x::takeBack);
        x.move(1);
        Check.same("of one move", x.takeBack(), 0);
        Check.none("behind the last one", x::takeBack);
        Check.none("behind the last one again", x::takeBack);
        Check.same("the play goes on", x.move(1), 1);
        x.begin(heap, false);
        Check.none("the moves of another play are not there", x::takeBack);
    }

    /** "Takes the last move back. Returns how many moves are left that were made": 12 of them. */
    private static void takenBackToTheBeginning() {
        Thermographica x = new Thermographica();
        int game = x.sum(x.heap(5), x.heap(5));
        for (int i = 0; i < 2; i++) {
            game = Check.made(x, Check.of(game), Check.of(game));
        }
        Check.same("moves in a row", x.depth(game), 12);
        x.begin(game, true);
        boolean[] wins = new boolean[13];
        for (int i = 0; i < 12; i++) {
            wins[i] = x.canWin();
            int choice = i < 2 ? 0 : 4 - (i - 2) % 5;
            Check.same("moves behind move " + i, x.move(choice) >= 0, true);
        }
        Check.same("no 13th move", x.canWin(), false);
        for (int i = 11; i >= 0; i--) {
            Check.same("left", x.takeBack(), i);
            Check.same("as it was", x.canWin(), wins[i]);
        }
        Check.none("none is left", x::takeBack);
        Check.same("they count all the same", x.moves(), 12);
    }

    /** Behind taking back, another move can be made. */
    private static void anotherWayBehindTakingBack() {
        Thermographica x = new Thermographica();
        int heap = x.heap(5);
        x.begin(heap, true);
        for (int i = 0; i < 5; i++) {
            Check.same("move " + i, x.move(i), i);
            Check.same("taken back", x.takeBack(), 0);
        }
        x.move(4);
        x.move(3);
        x.takeBack();
        Check.same("the second move again", x.move(2), 2);
        Check.same("the third one", x.move(1), 1);
        Check.same("two are left", x.takeBack(), 2);
        Check.same("one is left", x.takeBack(), 1);
        Check.same("the position is *4", x.move(3), 3);
        Check.same("sound", x.isSound(), true);
    }

    /** "whether the one whose turn it is wins by the right moves": whoever it is. */
    private static void canWinByTheRightMoves() {
        Thermographica x = new Thermographica();
        int up = Shelf.up(x);
        int[] games = {0, 1, up, x.turned(up), x.whole(3), x.whole(-3), Shelf.hot(x, 1, -1), Shelf.hot(x, 3, 1),
            Shelf.hot(x, -1, -3), x.sum(1, 1)};
        boolean[] leftWins = {false, true, true, false, true, false, true, true, false, false};
        boolean[] rightWins = {false, true, false, true, false, true, true, false, true, false};
        for (int i = 0; i < games.length; i++) {
            x.begin(games[i], true);
            Check.same("Left in game " + games[i], x.canWin(), leftWins[i]);
            x.begin(games[i], false);
            Check.same("Right in game " + games[i], x.canWin(), rightWins[i]);
        }
    }

    /** "Returns the lowest number of a move that wins." */
    private static void lowestWinningMove() {
        for (int place = 0; place < 4; place++) {
            Thermographica x = new Thermographica();
            int nought = x.whole(0);
            int minus = x.whole(-1);
            int star = x.heap(1);
            int[] options = {minus, star, minus, star};
            options[place] = nought;
            int game = Check.made(x, options, Check.of());
            x.begin(game, true);
            Check.same("the only one, " + place, x.winningMove(), place);
            int turned = x.turned(game);
            x.begin(turned, false);
            Check.same("the only one for Right, " + place, x.winningMove(), place);
            options[3] = nought;
            int two = Check.made(x, options, Check.of());
            x.begin(two, true);
            Check.same("the lower one of two, " + place, x.winningMove(), place);
            x.move(x.winningMove());
            Check.same("the other one is lost", x.canWin(), false);
            Check.none("by each move", x::winningMove);
        }
    }

    /** The lowest of all is 0. */
    private static void everyMoveWins() {
        Thermographica x = new Thermographica();
        int one = x.whole(1);
        int nought = x.whole(0);
        int game = Check.made(x, Check.of(one, nought, one), Check.of());
        x.begin(game, true);
        Check.same("each move wins", x.winningMove(), 0);
        int star = x.heap(1);
        int lost = Check.made(x, Check.of(star, star), Check.of(one));
        x.begin(lost, true);
        Check.none("no move wins", x::winningMove);
        Check.same("nor can Left", x.canWin(), false);
        x.begin(lost, false);
        Check.none("nor does one of Right", x::winningMove);
    }

    /** "if none did": without moves, by good ones, and by those who are lost anyhow. */
    private static void noMoveThrewAWinAway() {
        Thermographica x = new Thermographica();
        int game = x.sum(x.heap(1), x.heap(3));
        x.begin(game, true);
        Check.none("without moves", x::mistake);
        x.move(x.winningMove());
        Check.none("a good move", x::mistake);
        x.move(0);
        Check.none("a move of who is lost", x::mistake);
        x.move(x.winningMove());
        Check.none("a good move behind it", x::mistake);
        Check.same("the play is over", x.canWin(), false);
    }

    /** "which of the moves that were made threw a win away first ... from 0": at each place. */
    private static void firstMistake() {
        for (int place = 0; place < 4; place++) {
            Thermographica x = new Thermographica();
            int game = x.sum(x.heap(4), x.heap(4));
            int begun = Check.made(x, Check.of(game), Check.of(game));
            x.begin(begun, true);
            x.move(0);
            for (int i = 1; i <= place; i++) {
                x.move(i % 2 == 1 ? 3 - (i - 1) / 2 : x.winningMove());
                Check.none("till move " + i, x::mistake);
            }
            boolean isWon = x.canWin();
            Check.same("who is to move behind " + place, isWon, place % 2 == 1);
            if (isWon) {
                x.move(wrongMove(x));
                Check.same("the mistake", x.mistake(), place + 1);
                x.move(0);
                Check.same("the mistake stays the first", x.mistake(), place + 1);
            } else {
                x.move(0);
                Check.none("who is lost makes none", x::mistake);
                x.move(wrongMove(x));
                Check.same("the other one does", x.mistake(), place + 2);
            }
        }
    }

    /** A move that the one to move should not make. */
    private static int wrongMove(Thermographica x) {
        int good = x.winningMove();
        return good == 0 ? 1 : 0;
    }

    /** A mistake of the last move: the other one can win now. */
    private static void mistakeAtTheLastMove() {
        Thermographica x = new Thermographica();
        int heap = x.heap(2);
        x.begin(heap, false);
        x.move(1);
        Check.same("*2 to * is one", x.mistake(), 0);
        x.takeBack();
        x.move(0);
        Check.none("*2 to 0 is none", x::mistake);
        int one = x.whole(1);
        int game = Check.made(x, Check.of(one), Check.of(one));
        x.begin(game, false);
        x.move(0);
        Check.none("who can't win anyhow makes none", x::mistake);
        x.begin(game, true);
        x.move(0);
        Check.none("who wins anyhow makes none", x::mistake);
    }

    /** Mistakes of Left and of Right, by who begins. */
    private static void mistakeOfEach() {
        Thermographica x = new Thermographica();
        int heap = x.heap(4);
        for (boolean isLeft : new boolean[] {true, false}) {
            x.begin(heap, isLeft);
            x.move(3);
            x.move(2);
            x.move(1);
            Check.same("three mistakes, the first of them", x.mistake(), 0);
            x.takeBack();
            Check.same("two, the first of them", x.mistake(), 0);
            x.takeBack();
            x.takeBack();
            Check.none("none", x::mistake);
        }
        int sum = x.sum(x.heap(1), x.heap(1));
        int over = Check.made(x, Check.of(sum, heap), Check.of(sum, heap));
        for (boolean isLeft : new boolean[] {true, false}) {
            x.begin(over, isLeft);
            x.move(1);
            Check.same("the first move was one", x.mistake(), 0);
            x.takeBack();
            x.move(0);
            x.move(0);
            x.move(0);
            Check.none("no mistakes", x::mistake);
        }
    }

    /** Moves that were taken back are not among those that were made. */
    private static void mistakesTakenBack() {
        Thermographica x = new Thermographica();
        int heap = x.heap(3);
        int game = Check.made(x, Check.of(heap), Check.of(heap));
        x.begin(game, true);
        x.move(0);
        x.move(1);
        Check.same("Right's mistake", x.mistake(), 1);
        x.takeBack();
        Check.none("taken back", x::mistake);
        x.move(0);
        Check.none("the right one instead", x::mistake);
        x.takeBack();
        x.move(2);
        Check.same("another mistake instead", x.mistake(), 1);
        Check.same("it can be won", x.canWin(), true);
        Check.same("moves", x.moves(), 4);
    }

    /** Asking changes nothing, and a play is followed in the game that it was begun with. */
    private static void sameGameManyTimes() {
        Thermographica x = new Thermographica();
        int heap = x.heap(6);
        x.begin(heap, true);
        x.move(5);
        for (int i = 0; i < 3; i++) {
            Check.same("canWin", x.canWin(), true);
            Check.same("winningMove", x.winningMove(), 0);
            Check.same("mistake", x.mistake(), 0);
        }
        x.whole(1);
        x.tellOption(true, heap);
        x.make();
        x.turned(heap);
        Check.same("other games change nothing", x.winningMove(), 0);
        Check.noGame("nor how many moves there are", () -> x.move(5));
        Check.same("the last move", x.move(4), 4);
    }

    /** "how many moves were made in all plays, those that were taken back included". */
    private static void movesOfAllPlays() {
        Thermographica x = new Thermographica();
        Check.same("without a play", x.moves(), 0);
        int heap = x.heap(2);
        int due = 0;
        for (int play = 0; play < 20; play++) {
            x.begin(heap, play % 2 == 0);
            Check.same("begin is none", x.moves(), due);
            x.move(1);
            x.move(0);
            due += 2;
            Check.noGame("no third move", () -> x.move(0));
            Check.same("two more", x.moves(), due);
            x.takeBack();
            Check.same("taking back is none", x.moves(), due);
            x.move(0);
            due++;
            Check.same("made again", x.moves(), due);
        }
    }

    /** "if there are no games". */
    private static void shareWithoutGames() {
        Thermographica x = new Thermographica();
        Check.fails("numberShare", ArithmeticException.class, x::numberShare);
        Check.illegal("whole(7)", () -> x.whole(7));
        Check.fails("numberShare still", ArithmeticException.class, x::numberShare);
        x.heap(1);
        Check.same("one game that is none", x.numberShare(), 0.0);
        x.heap(0);
        Check.same("one of two", x.numberShare(), 0.5);
    }

    /** "their number divided by that of all games, both converted to float": all shares of 24 games, and on the way. */
    private static void shareOfNumbers() {
        for (int numbers = 0; numbers <= 24; numbers += 3) {
            Thermographica x = new Thermographica();
            for (int i = 0; i < 24; i++) {
                int due = Math.min(numbers, i + 1);
                if (i < numbers) {
                    x.whole(i % 7 - 3);
                } else {
                    x.heap(1 + i % 6);
                }
                Check.same(due + " of " + (i + 1), x.numberShare(), (double) ((float) due / (float) (i + 1)));
            }
        }
        Thermographica x = new Thermographica();
        int star = x.heap(1);
        x.sum(star, star);
        x.heap(0);
        Check.same("by their value, not by how they were made: 2 of 3", x.numberShare(), (double) (2f / 3f));
    }

    /** isSound: "for each game and the next one", "and the play, if there is one": true at every step. */
    private static void soundAtEveryStep() {
        Thermographica x = new Thermographica();
        Check.same("without games", x.isSound(), true);
        for (int i = 0; i < 24; i++) {
            if (i % 4 == 0) {
                x.heap(i / 4);
            } else if (i % 4 == 1) {
                x.turned(i / 2);
            } else if (i % 4 == 2) {
                x.whole(i / 4 - 3);
            } else {
                x.tellOption(true, i - 1);
                x.tellOption(false, i - 2);
                x.tellOption(false, i - 3);
                x.make();
            }
            Check.same("with " + (i + 1) + " games", x.isSound(), true);
            x.begin(i, i % 2 == 0);
            Check.same("with a play", x.isSound(), true);
            if (x.canWin()) {
                x.move(x.winningMove());
                Check.same("with a move", x.isSound(), true);
            }
        }
        Check.badState("a 25th game", () -> x.heap(0));
        Check.same("behind a refused call", x.isSound(), true);
    }
}
