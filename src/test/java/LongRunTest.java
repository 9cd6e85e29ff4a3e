/** "An object is used for at most 512 calls": runs that go so far, of one kind of call or of all in turn. */
public final class LongRunTest {
    private static final int CALLS = 512;

    public static void main(String[] args) {
        comparedAllWays();
        oneLongPlay();
        manyPlays();
        toldAndCleared();
        writtenAndRead();
        allWalls();
        refusedAgainAndAgain();
        dearestGames();
        allInTurn();
        Check.end("LongRunTest");
    }

    /** Thirteen whole numbers, two heaps, and switches round each number: what is due is known for each pair. */
    private static int[] row(Thermographica x) {
        int[] ends = new int[24];
        for (int n = 0; n < 13; n++) {
            x.whole(n - 6);
            ends[n] = n - 6;
        }
        for (int n = 13; n < 24; n++) {
            int width = n - 12;
            x.tellOption(true, Math.min(12, 6 + (width + 1) / 2));
            x.tellOption(false, Math.max(0, 6 - width / 2));
            x.make();
            ends[n] = 100 + width;
        }
        return ends;
    }

    private static int upper(int end) {
        return end > 90 ? Math.min(6, (end - 100 + 1) / 2) : end;
    }

    private static int lower(int end) {
        return end > 90 ? Math.max(-6, -((end - 100) / 2)) : end;
    }

    /** A switch is confused with what its ends embrace, and with each other one that does not embrace it more. */
    private static char due(int one, int other) {
        boolean isSwitch = one > 90;
        boolean isOtherSwitch = other > 90;
        if (!isSwitch && !isOtherSwitch) {
            return one < other ? '<' : one > other ? '>' : '=';
        }
        if (isSwitch && isOtherSwitch) {
            return dueOfSwitches(upper(one), lower(one), upper(other), lower(other));
        }
        if (isSwitch) {
            return other > upper(one) ? '<' : other < lower(one) ? '>' : '|';
        }
        char swapped = due(other, one);
        return swapped == '<' ? '>' : swapped == '>' ? '<' : '|';
    }

    /** {a|b} less {c|d}: who begins takes the wider one first, and the other one takes what is left. */
    private static char dueOfSwitches(int a, int b, int c, int d) {
        boolean isAtMost = !leftWins(a, b, -d, -c);
        boolean isAtLeast = !rightWins(a, b, -d, -c);
        return isAtMost && isAtLeast ? '=' : isAtMost ? '<' : isAtLeast ? '>' : '|';
    }

    /** {a|b} + {c|d}, where Left begins; behind it there are only numbers, which Left wins if they are 0 and Right moves. */
    private static boolean leftWins(int a, int b, int c, int d) {
        return a + d > 0 || c + b > 0;
    }

    private static boolean rightWins(int a, int b, int c, int d) {
        return b + c < 0 || d + a < 0;
    }

    private static void comparedAllWays() {
        for (int part = 0; part < 4; part++) {
            Thermographica x = new Thermographica();
            int[] ends = row(x);
            for (int first = part / 2 * 12; first < part / 2 * 12 + 12; first++) {
                for (int second = 0; second < 24; second++) {
                    char got = part % 2 == 0 ? x.compare(first, second) : x.compareByPlay(first, second);
                    Check.same("compare(" + first + ", " + second + ")", got, due(ends[first], ends[second]));
                }
            }
            Check.same("sound behind it", x.isSound(), true);
        }
    }

    /** Two calls make the object's game and play; the others move and take back, till the last one. */
    private static void oneLongPlay() {
        Thermographica x = new Thermographica();
        x.heap(6);
        x.begin(0, true);
        int moves = 0;
        int made = 0;
        for (int call = 4; call < CALLS; call++) {
            if (made < 6 && call % 13 != 0) {
                Check.same("move, call " + call, x.move(5 - made), 5 - made);
                made++;
                moves++;
            } else {
                made--;
                Check.same("takeBack, call " + call, x.takeBack(), made);
            }
        }
        Check.same("moves at last", x.moves(), moves);
    }

    /** begin, move, canWin, mistake, in turn. */
    private static void manyPlays() {
        Thermographica x = new Thermographica();
        x.heap(3);
        int moves = 0;
        for (int play = 0; 5 * play + 7 < CALLS; play++) {
            boolean isMistake = play % 3 != 0;
            Check.same("begin", x.begin(0, play % 2 == 0), 3);
            Check.same("winningMove", x.winningMove(), 0);
            Check.same("move", x.move(play % 3), play % 3);
            moves++;
            Check.same("canWin", x.canWin(), isMistake);
            if (isMistake) {
                Check.same("mistake", x.mistake(), 0);
            } else {
                Check.none("mistake", x::mistake);
            }
        }
        Check.same("moves of all plays", x.moves(), moves);
    }

    private static void toldAndCleared() {
        Thermographica x = new Thermographica();
        x.whole(1);
        for (int call = 2; call + 6 < CALLS; call += 6) {
            boolean isLeft = call % 4 == 0;
            for (int i = 1; i <= 4; i++) {
                Check.same("tellOption, call " + call, x.tellOption(isLeft, 0), i);
            }
            Check.badState("a fifth one", () -> x.tellOption(isLeft, 0));
            Check.same("clearOptions, call " + call, x.clearOptions(), 4);
        }
        Check.same("the next game", x.make(), 1);
        Check.same("has no options", x.positions(1), 1);
    }

    private static void writtenAndRead() {
        Thermographica x = new Thermographica();
        int up = Shelf.up(x);
        int hot = Shelf.hot(x, 5, -6);
        int[] games = {0, 1, up, hot};
        String[] due = {"0", "*", "{0|*}", "{5|-6}"};
        int calls = 12;
        for (int i = 0; calls + 8 < CALLS; i++) {
            String text = due[i % 4];
            Check.same("write", x.write(games[i % 4]), text.length());
            Check.same("charAt", Check.read(x, text.length()), text);
            Check.noGame("the character behind it", () -> x.charAt(text.length()));
            calls += text.length() + 2;
        }
        Check.same("sound", x.isSound(), true);
    }

    /** All walls of {11|-11} and of {3|0} + {1|0}, from 0 to 400. */
    private static void allWalls() {
        for (boolean isLeft : new boolean[] {true, false}) {
            Thermographica x = new Thermographica();
            int eleven = Shelf.chain(x, 11);
            int game = Check.made(x, Check.of(eleven), Check.of(x.turned(eleven)));
            Thermographica y = new Thermographica();
            int sum = y.sum(Shelf.hot(y, 3, 0), Shelf.hot(y, 1, 0));
            for (int sixteenths = 0; sixteenths <= 400; sixteenths++) {
                double t = sixteenths / 16.0;
                double due = t < 11 ? 11 - t : 0;
                Check.same("wall at " + sixteenths, x.wall(game, isLeft, sixteenths), isLeft ? due : -due);
                double half = t < 0.5 ? 1 : t < 1.5 ? 1.5 - t : 0;
                Check.same("wall of the sum at " + sixteenths, y.wall(sum, isLeft, sixteenths), isLeft ? 2 + half : 2 - half);
            }
            Check.same("temperature behind it", x.temperature(game), 11.0);
            Check.same("mean behind it", y.mean(sum), 2.0);
        }
    }

    /** Calls that change nothing, however often they are refused. */
    private static void refusedAgainAndAgain() {
        Thermographica x = new Thermographica();
        int wide = Shelf.forty(x);
        x.tellOption(true, wide);
        x.tellOption(false, 0);
        x.write(0);
        x.begin(1, true);
        for (int i = 0; i < 45; i++) {
            Check.tooMuch("sum", () -> x.sum(wide, wide));
            Check.tooMuch("sum with a small one", () -> x.sum(0, wide));
            Check.noGame("tellOption", () -> x.tellOption(true, wide + 1));
            Check.illegal("whole", () -> x.whole(7));
            Check.illegal("heap", () -> x.heap(-1));
            Check.noGame("turned", () -> x.turned(wide + 1));
            Check.noGame("move", () -> x.move(3));
            Check.none("takeBack", x::takeBack);
            Check.noGame("begin", () -> x.begin(wide + 1, false));
            Check.noGame("charAt", () -> x.charAt(1));
            Check.tooMuch("make", x::make);
        }
        Check.same("what was told", x.clearOptions(), 2);
        Check.same("what was written", x.charAt(0), '*');
        Check.same("the play", x.canWin(), true);
        Check.same("its moves", x.moves(), 0);
        Check.same("the next game", x.heap(0), wide + 1);
    }

    /** Twenty games of 40 positions each. */
    private static void dearestGames() {
        Thermographica x = new Thermographica();
        int last = Shelf.forty(x);
        for (int i = last + 1; i < 24; i++) {
            last = x.turned(last);
            Check.same("40 positions", x.positions(last), 40);
        }
        for (int call = 60; call < CALLS; call++) {
            if (call % 3 == 0) {
                Check.same("sound, call " + call, x.isSound(), true);
            } else if (call % 3 == 1) {
                int first = 4 + call % 20;
                int second = 4 + call / 20 % 20;
                char due = first % 2 == second % 2 ? '=' : first % 2 == 0 ? '>' : '<';
                Check.same("compareByPlay, call " + call, x.compareByPlay(first, second), due);
            } else {
                int game = 4 + call % 20;
                Check.same("mean, call " + call, x.mean(game), game % 2 == 0 ? 4.0 : -4.0);
            }
        }
    }

    /** Calls of all kinds in turn, each with what is due. */
    private static void allInTurn() {
        Thermographica x = new Thermographica();
        x.heap(2);
        Check.same("no number", x.numberShare(), 0.0);
        int games = 1;
        int moves = 0;
        for (int call = 3; call + 20 < CALLS; call += 20) {
            int heaps = games;
            if (games < 24) {
                Check.same("sum", x.sum(0, 0), games);
                Check.same("its value", x.heapOf(games), 0);
                games++;
            } else {
                Check.badState("sum", () -> x.sum(0, 0));
                Check.same("its value", x.heapOf(heaps - 1), 0);
            }
            Check.same("positions", x.positions(0), 3);
            Check.same("positions of the sum", x.positions(games - 1), 9);
            Check.same("compare", x.compare(0, games - 1), '|');
            Check.same("compareByPlay", x.compareByPlay(games - 1, games - 1), '=');
            Check.same("begin", x.begin(games - 1, call % 2 == 0), 4);
            Check.same("move", x.move(call % 4), call % 2 + 2);
            moves++;
            Check.same("canWin", x.canWin(), true);
            Check.same("takeBack", x.takeBack(), 0);
            Check.same("canWin before it", x.canWin(), false);
            Check.same("moves", x.moves(), moves);
            Check.same("numberShare", x.numberShare(), (double) ((float) (games - 1) / (float) games));
            Check.same("write", x.write(0), 2);
            Check.same("charAt", x.charAt(1), '2');
            Check.same("wall", x.wall(0, true, call % 401), 0.0);
            Check.same("tellOption", x.tellOption(true, 0), 1);
            Check.same("clearOptions", x.clearOptions(), 1);
            Check.same("sound", x.isSound(), true);
        }
    }
}
