/** The term "Stops and cooling" and promises 21 to 24 at their edges: a method for each sentence that names one. */
public final class HeatEdgesTest {
    public static void main(String[] args) {
        sixteenthsInRange();
        numbersAreThemselves();
        numbersHaveNoTemperature();
        stopsAreWallsAtNought();
        onASixteenth();
        betweenTwoSixteenths();
        hardlyBeyondASixteenth();
        hardlyBelowASixteenth();
        belowTheFirstSixteenth();
        theHottest();
        temperatureOfNought();
        hotOptionsButCold();
        colderOptionForLeft();
        colderOptionForRight();
        hotterOption();
        greatestWallChanges();
        leastWallChanges();
        cornerAtTheTemperature();
        turnedWalls();
        meansOfSums();
        equalGames();
        askedInAnyOrder();
        Check.end("HeatEdgesTest");
    }

    private static void walls(Thermographica x, int game, int sixteenths, double left, double right) {
        Check.same("left wall of " + game + " at " + sixteenths, x.wall(game, true, sixteenths), left);
        Check.same("right wall of " + game + " at " + sixteenths, x.wall(game, false, sixteenths), right);
    }

    private static void heat(Thermographica x, int game, double temperature, double mean) {
        Check.same("temperature of " + game, x.temperature(game), temperature);
        Check.same("mean of " + game, x.mean(game), mean);
    }

    /** "16 times t, 0 to 400": the range, one short of its ends and one beyond, for each kind of game. */
    private static void sixteenthsInRange() {
        Thermographica x = new Thermographica();
        int up = Shelf.up(x);
        int hot = Shelf.hot(x, 5, -3);
        int[] games = {0, 1, up, hot};
        double[] means = {0, 0, 0, 1};
        for (int i = 0; i < games.length; i++) {
            int game = games[i];
            for (boolean isLeft : new boolean[] {true, false}) {
                for (int wrong : new int[] {-1, 401, -2, 402, -400, 6400, Integer.MIN_VALUE, Integer.MAX_VALUE}) {
                    Check.illegal("wall of " + game + " at " + wrong, () -> x.wall(game, isLeft, wrong));
                }
                Check.same("at 0", x.wall(game, isLeft, 0), i < 3 ? 0.0 : isLeft ? 5 : -3);
                Check.same("at 1", x.wall(game, isLeft, 1), i < 3 ? 0.0 : isLeft ? 4.9375 : -2.9375);
                Check.same("at 399", x.wall(game, isLeft, 399), means[i]);
                Check.same("at 400", x.wall(game, isLeft, 400), means[i]);
            }
        }
        Check.noGame("no such game comes before", () -> x.wall(99, true, 401));
        Check.noGame("no such game comes before, below 0", () -> x.wall(-1, true, -1));
    }

    /** "Cooled by t ..., a form that is a number is this number"; "for a number this itself". */
    private static void numbersAreThemselves() {
        Thermographica x = new Thermographica();
        int small = Shelf.fraction(x, 3);
        int six = x.whole(6);
        int minus = x.sum(x.whole(-6), small);
        int none = x.sum(x.heap(2), x.heap(2));
        int[] games = {0, 1, small, x.turned(small), six, minus, none, x.heap(0), x.make()};
        double[] due = {0, 1, 0.125, -0.125, 6, -5.875, 0, 0, 0};
        for (int i = 0; i < games.length; i++) {
            for (int sixteenths : new int[] {0, 1, 2, 16, 96, 400}) {
                walls(x, games[i], sixteenths, due[i], due[i]);
            }
            Check.same("left stop of " + due[i], x.stop(games[i], true), due[i]);
            Check.same("right stop of " + due[i], x.stop(games[i], false), due[i]);
            Check.same("mean of " + due[i], x.mean(games[i]), due[i]);
        }
    }

    /** temperature: "if it is a number", in whatever way it was made. */
    private static void numbersHaveNoTemperature() {
        Thermographica x = new Thermographica();
        int star = x.heap(1);
        int one = x.whole(1);
        int hot = Shelf.hot(x, 2, -2);
        int[] numbers = {one, x.whole(0), x.heap(0), x.make(), x.sum(star, star), x.turned(one), x.sum(hot, hot),
            Check.made(x, Check.of(star), Check.of(star)), Check.made(x, Check.of(0), Check.of(one))};
        for (int game : numbers) {
            Check.same("a number", x.kindOf(game), 'n');
            Check.none("temperature of " + game, () -> x.temperature(game));
            Check.none("temperature of " + game + " again", () -> x.temperature(game));
        }
        Check.same("but * has one", x.temperature(star), 0.0);
        Check.same("and {2|-2}", x.temperature(hot), 2.0);
    }

    /** Walls at 0 are the stops. */
    private static void stopsAreWallsAtNought() {
        Thermographica x = new Thermographica();
        int up = Shelf.up(x);
        int hot = Shelf.hot(x, 4, 1);
        int cold = x.turned(hot);
        int both = Check.made(x, Check.of(hot), Check.of(cold));
        int[] games = {0, 1, up, hot, cold, both, Check.made(x, Check.of(hot), Check.of(hot)),
            Check.made(x, Check.of(hot, up), Check.of(x.whole(-2)))};
        for (int game : games) {
            walls(x, game, 0, x.stop(game, true), x.stop(game, false));
        }
    }

    /** The temperature of {3|-1} is 2, which is 32 sixteenths: at it, one short of it and beyond it. */
    private static void onASixteenth() {
        Thermographica x = new Thermographica();
        int game = Shelf.hot(x, 3, -1);
        walls(x, game, 0, 3, -1);
        walls(x, game, 1, 2.9375, -0.9375);
        walls(x, game, 16, 2, 0);
        walls(x, game, 31, 1.0625, 0.9375);
        walls(x, game, 32, 1, 1);
        walls(x, game, 33, 1, 1);
        walls(x, game, 64, 1, 1);
        walls(x, game, 400, 1, 1);
        heat(x, game, 2, 1);
    }

    /** The temperature of {3|1/16} is 47/32, in the middle between 23 and 24 sixteenths. */
    private static void betweenTwoSixteenths() {
        Thermographica x = new Thermographica();
        int small = Shelf.fraction(x, 4);
        int game = Check.made(x, Check.of(x.whole(3)), Check.of(small));
        heat(x, game, 47.0 / 32, 49.0 / 32);
        walls(x, game, 22, 26.0 / 16, 23.0 / 16);
        walls(x, game, 23, 25.0 / 16, 24.0 / 16);
        walls(x, game, 24, 49.0 / 32, 49.0 / 32);
        walls(x, game, 25, 49.0 / 32, 49.0 / 32);
        int turned = x.turned(game);
        walls(x, turned, 23, -24.0 / 16, -25.0 / 16);
        walls(x, turned, 24, -49.0 / 32, -49.0 / 32);
        heat(x, turned, 47.0 / 32, -49.0 / 32);
    }

    /** The temperature of {1|-1/1024} is 1025/2048: at 8 sixteenths, 1024/2048, the walls are still apart. */
    private static void hardlyBeyondASixteenth() {
        Thermographica x = new Thermographica();
        int small = Shelf.fraction(x, 10);
        int game = Check.made(x, Check.of(1), Check.of(x.turned(small)));
        heat(x, game, 1025.0 / 2048, 1023.0 / 2048);
        walls(x, game, 7, 9.0 / 16, 7.0 / 16 - 1.0 / 1024);
        walls(x, game, 8, 0.5, 0.5 - 1.0 / 1024);
        walls(x, game, 9, 1023.0 / 2048, 1023.0 / 2048);
    }

    /** The temperature of {1|1/1024} is 1023/2048: at 8 sixteenths the walls are one already. */
    private static void hardlyBelowASixteenth() {
        Thermographica x = new Thermographica();
        int small = Shelf.fraction(x, 10);
        int game = Check.made(x, Check.of(1), Check.of(small));
        heat(x, game, 1023.0 / 2048, 1025.0 / 2048);
        walls(x, game, 7, 9.0 / 16, 7.0 / 16 + 1.0 / 1024);
        walls(x, game, 8, 1025.0 / 2048, 1025.0 / 2048);
        walls(x, game, 9, 1025.0 / 2048, 1025.0 / 2048);
    }

    /** The temperatures of {1/16|0} and of {1/1024|0} are between 0 and 1 sixteenth; that of {1/8|0} is just 1. */
    private static void belowTheFirstSixteenth() {
        Thermographica x = new Thermographica();
        int last = Shelf.fraction(x, 2);
        double number = 0.25;
        for (int times = 3; times <= 10; times++) {
            last = Check.made(x, Check.of(0), Check.of(last));
            number = number / 2;
            int game = Check.made(x, Check.of(last), Check.of(0));
            heat(x, game, number / 2, number / 2);
            walls(x, game, 0, number, 0);
            walls(x, game, 1, number / 2, number / 2);
            walls(x, game, 2, number / 2, number / 2);
        }
    }

    /** The hottest games: {11|-11}, at 176 sixteenths, and {11|-6}, at 136. */
    private static void theHottest() {
        Thermographica x = new Thermographica();
        int eleven = Shelf.chain(x, 11);
        int minus = x.turned(eleven);
        int game = Check.made(x, Check.of(eleven), Check.of(minus));
        Check.same("its depth", x.depth(game), 12);
        heat(x, game, 11, 0);
        walls(x, game, 0, 11, -11);
        walls(x, game, 160, 1, -1);
        walls(x, game, 175, 0.0625, -0.0625);
        walls(x, game, 176, 0, 0);
        walls(x, game, 177, 0, 0);
        walls(x, game, 400, 0, 0);
        int less = Check.made(x, Check.of(eleven), Check.of(x.whole(-6)));
        heat(x, less, 8.5, 2.5);
        walls(x, less, 135, 2.5625, 2.4375);
        walls(x, less, 136, 2.5, 2.5);
        int upper = Check.made(x, Check.of(eleven), Check.of(x.whole(6)));
        heat(x, upper, 2.5, 8.5);
        walls(x, upper, 39, 8.5625, 8.4375);
        walls(x, upper, 40, 8.5, 8.5);
    }

    /** "If both are the same at 0, the temperature is 0." */
    private static void temperatureOfNought() {
        Thermographica x = new Thermographica();
        int up = Shelf.up(x);
        int small = Shelf.fraction(x, 3);
        int minus = x.whole(-5);
        int[] games = {1, up, x.sum(up, up), x.turned(up), x.sum(up, 1), x.heap(6),
            Check.made(x, Check.of(small), Check.of(small)), Check.made(x, Check.of(minus), Check.of(minus)),
            x.sum(small, up)};
        double[] means = {0, 0, 0, 0, 0, 0, 0.125, -5, 0.125};
        for (int i = 0; i < games.length; i++) {
            heat(x, games[i], 0, means[i]);
            for (int sixteenths : new int[] {0, 1, 16, 400}) {
                walls(x, games[i], sixteenths, means[i], means[i]);
            }
        }
    }

    /** {0|{0|-2}} and {{5|1}|1}: an option is hot, but both walls are the same at 0 and stay so. */
    private static void hotOptionsButCold() {
        Thermographica x = new Thermographica();
        int nought = x.whole(0);
        int tiny = Check.made(x, Check.of(nought), Check.of(Shelf.hot(x, 0, -2)));
        heat(x, tiny, 0, 0);
        int one = x.whole(1);
        int more = Check.made(x, Check.of(Shelf.hot(x, 5, 1)), Check.of(one));
        Check.same("it is no number", x.kindOf(more), 'o');
        heat(x, more, 0, 1);
        for (int sixteenths : new int[] {0, 1, 15, 16, 17, 32, 33, 400}) {
            walls(x, tiny, sixteenths, 0, 0);
            walls(x, more, sixteenths, 1, 1);
        }
    }

    /** {{4|0}|-6}: Left's option has its temperature at 2, the game at 4. */
    private static void colderOptionForLeft() {
        Thermographica x = new Thermographica();
        int option = Shelf.hot(x, 4, 0);
        int game = Check.made(x, Check.of(option), Check.of(x.whole(-6)));
        walls(x, game, 0, 0, -6);
        walls(x, game, 31, 0, -4.0625);
        walls(x, game, 32, 0, -4);
        walls(x, game, 33, -0.0625, -3.9375);
        walls(x, game, 63, -1.9375, -2.0625);
        walls(x, game, 64, -2, -2);
        walls(x, game, 65, -2, -2);
        heat(x, game, 4, -2);
        heat(x, option, 2, 2);
    }

    /** {6|{0|-4}}: the same for Right. */
    private static void colderOptionForRight() {
        Thermographica x = new Thermographica();
        int option = Shelf.hot(x, 0, -4);
        int game = Check.made(x, Check.of(x.whole(6)), Check.of(option));
        walls(x, game, 0, 6, 0);
        walls(x, game, 31, 4.0625, 0);
        walls(x, game, 32, 4, 0);
        walls(x, game, 33, 3.9375, 0.0625);
        walls(x, game, 63, 2.0625, 1.9375);
        walls(x, game, 64, 2, 2);
        walls(x, game, 400, 2, 2);
        heat(x, game, 4, 2);
        heat(x, option, 2, -2);
    }

    /** {{6|0}|-1}: the game freezes at 1, while Left's option is hot till 3. */
    private static void hotterOption() {
        Thermographica x = new Thermographica();
        int option = Shelf.hot(x, 6, 0);
        int game = Check.made(x, Check.of(option), Check.of(x.whole(-1)));
        walls(x, game, 0, 0, -1);
        walls(x, game, 15, 0, -0.0625);
        walls(x, game, 16, 0, 0);
        walls(x, game, 17, 0, 0);
        walls(x, game, 48, 0, 0);
        walls(x, game, 49, 0, 0);
        heat(x, game, 1, 0);
        heat(x, option, 3, 3);
        int turned = x.turned(game);
        walls(x, turned, 15, 0.0625, 0);
        walls(x, turned, 16, 0, 0);
        heat(x, turned, 1, 0);
    }

    /** "the greatest right wall at t of its options for Left": 1 till t is 1, and {4|0} behind it. */
    private static void greatestWallChanges() {
        Thermographica x = new Thermographica();
        int option = Shelf.hot(x, 4, 0);
        int game = Check.made(x, Check.of(option, x.whole(1)), Check.of(x.whole(-6)));
        Check.same("both options stay", x.options(game, true), 2);
        walls(x, game, 0, 1, -6);
        walls(x, game, 15, 0.0625, -5.0625);
        walls(x, game, 16, 0, -5);
        walls(x, game, 17, 0, -4.9375);
        walls(x, game, 32, 0, -4);
        walls(x, game, 33, -0.0625, -3.9375);
        walls(x, game, 64, -2, -2);
        heat(x, game, 4, -2);
    }

    /** "the least left wall at t of those for Right": -1 till t is 1, and {0|-4} behind it. */
    private static void leastWallChanges() {
        Thermographica x = new Thermographica();
        int option = Shelf.hot(x, 0, -4);
        int game = Check.made(x, Check.of(x.whole(6)), Check.of(x.whole(-1), option));
        Check.same("both options stay", x.options(game, false), 2);
        walls(x, game, 0, 6, -1);
        walls(x, game, 15, 5.0625, -0.0625);
        walls(x, game, 16, 5, 0);
        walls(x, game, 17, 4.9375, 0);
        walls(x, game, 32, 4, 0);
        walls(x, game, 33, 3.9375, 0.0625);
        walls(x, game, 64, 2, 2);
        heat(x, game, 4, 2);
    }

    /** {{4|0}|-2}: the option and the game have the same temperature; {{4|0}|{0|-4}} is 0. */
    private static void cornerAtTheTemperature() {
        Thermographica x = new Thermographica();
        int option = Shelf.hot(x, 4, 0);
        int game = Check.made(x, Check.of(option), Check.of(x.whole(-2)));
        walls(x, game, 31, 0, -0.0625);
        walls(x, game, 32, 0, 0);
        walls(x, game, 33, 0, 0);
        heat(x, game, 2, 0);
        heat(x, option, 2, 2);
        int both = Check.made(x, Check.of(option), Check.of(x.turned(option)));
        walls(x, both, 0, 0, 0);
        walls(x, both, 32, 0, 0);
        Check.same("its mean", x.mean(both), 0.0);
        Check.none("it is a number", () -> x.temperature(both));
    }

    /** Turned games have the other wall, turned. */
    private static void turnedWalls() {
        Thermographica x = new Thermographica();
        int option = Shelf.hot(x, 5, 1);
        int game = Check.made(x, Check.of(option, x.whole(2)), Check.of(x.whole(-3)));
        int turned = x.turned(game);
        for (int sixteenths = 0; sixteenths <= 80; sixteenths += 4) {
            walls(x, turned, sixteenths, -x.wall(game, false, sixteenths), -x.wall(game, true, sixteenths));
        }
        heat(x, turned, x.temperature(game), -x.mean(game));
        Check.same("left stop", x.stop(turned, true), 3.0);
        Check.same("right stop", x.stop(turned, false), -2.0);
    }

    /** The mean of a sum is the sum of the means; its temperature is no higher than both. */
    private static void meansOfSums() {
        Thermographica x = new Thermographica();
        int one = Shelf.hot(x, 3, 0);
        int other = Shelf.hot(x, 0, -2);
        int sum = x.sum(one, other);
        heat(x, sum, 1.5, 0.5);
        int itself = x.sum(one, one);
        Check.same("{3|0} + {3|0} is a number", x.number(itself), 3.0);
        Check.same("its mean", x.mean(itself), 3.0);
        int less = x.sum(one, Shelf.hot(x, 1, 0));
        heat(x, less, 1.5, 2);
        walls(x, less, 0, 3, 1);
        walls(x, less, 8, 3, 1);
        walls(x, less, 9, 2.9375, 1.0625);
        walls(x, less, 23, 2.0625, 1.9375);
        walls(x, less, 24, 2, 2);
    }

    /** Equal games have the same heat, in whatever way they were made. */
    private static void equalGames() {
        Thermographica x = new Thermographica();
        int game = Shelf.hot(x, 3, -1);
        int shifted = x.sum(Shelf.hot(x, 2, -2), x.whole(1));
        int told = Check.made(x, Check.of(0, x.whole(2)), Check.of(1, 0, x.whole(-1)));
        for (int alike : new int[] {shifted, told, x.turned(x.turned(game))}) {
            Check.same("equal", x.compare(alike, game), '=');
            heat(x, alike, 2, 1);
            walls(x, alike, 31, 1.0625, 0.9375);
            walls(x, alike, 33, 1, 1);
        }
    }

    /** One answer does not hang on what was asked before. */
    private static void askedInAnyOrder() {
        int[] times = {0, 33, 5, 64, 5, 400, 16, 5, 63, 0, 31};
        for (int first = 0; first < times.length; first++) {
            Thermographica x = new Thermographica();
            int option = Shelf.hot(x, 4, 0);
            int game = Check.made(x, Check.of(option), Check.of(x.whole(-6)));
            if (first % 3 == 1) {
                heat(x, game, 4, -2);
            }
            for (int i = 0; i < times.length; i++) {
                int time = times[(first + i) % times.length];
                double t = Math.min(4, time / 16.0);
                double left = Math.min(0, 2 - t);
                walls(x, game, time, left, t - 6);
                double s = Math.min(2, time / 16.0);
                Check.same("the option's right wall at " + time, x.wall(option, false, time), s);
                Check.same("the option's left wall at " + time, x.wall(option, true, time), 4 - s);
            }
            heat(x, game, 4, -2);
            heat(x, option, 2, 2);
        }
    }
}
