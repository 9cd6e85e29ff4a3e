/** Promises 21 to 24: stops, walls, temperatures and means. */
public final class HeatTest {
    public static void main(String[] args) {
        switches();
        numbersAreCold();
        coldOnes();
        bentWalls();
        levelWalls();
        smallHeat();
        wrongInputs();
        Check.end("HeatTest");
    }

    private static void switches() {
        Thermographica x = new Thermographica();
        int game = Check.made(x, Check.of(x.whole(5)), Check.of(x.whole(-2)));
        stops(x, game, 5, -2);
        Check.same("temperature of {5|-2}", x.temperature(game), 3.5);
        Check.same("mean of {5|-2}", x.mean(game), 1.5);
        walls(x, game, 0, 5, -2);
        walls(x, game, 1, 4.9375, -1.9375);
        walls(x, game, 16, 4, -1);
        walls(x, game, 55, 1.5625, 1.4375);
        walls(x, game, 56, 1.5, 1.5);
        walls(x, game, 57, 1.5, 1.5);
        walls(x, game, 400, 1.5, 1.5);
        int turned = x.turned(game);
        stops(x, turned, 2, -5);
        walls(x, turned, 16, 1, -4);
        Check.same("mean of the turned one", x.mean(turned), -1.5);
        Check.same("its temperature", x.temperature(turned), 3.5);
        int most = Check.made(x, Check.of(x.whole(6)), Check.of(x.whole(-6)));
        Check.same("temperature of {6|-6}", x.temperature(most), 6.0);
        walls(x, most, 95, 0.0625, -0.0625);
        walls(x, most, 96, 0, 0);
    }

    private static void stops(Thermographica x, int game, double left, double right) {
        Check.same("left stop of " + game, x.stop(game, true), left);
        Check.same("right stop of " + game, x.stop(game, false), right);
    }

    private static void walls(Thermographica x, int game, int sixteenths, double left, double right) {
        Check.same("left wall of " + game + " at " + sixteenths, x.wall(game, true, sixteenths), left);
        Check.same("right wall of " + game + " at " + sixteenths, x.wall(game, false, sixteenths), right);
    }

    private static void numbersAreCold() {
        Thermographica x = new Thermographica();
        int nought = x.whole(0);
        int one = x.whole(1);
        int half = Check.made(x, Check.of(nought), Check.of(one));
        stops(x, half, 0.5, 0.5);
        walls(x, half, 0, 0.5, 0.5);
        walls(x, half, 400, 0.5, 0.5);
        Check.same("mean of 1/2", x.mean(half), 0.5);
        Check.none("temperature of 1/2", () -> x.temperature(half));
        Check.none("temperature of 0", () -> x.temperature(nought));
        Check.same("mean of 0", x.mean(nought), 0.0);
        int star = x.heap(1);
        int none = x.sum(star, star);
        Check.none("temperature of * + *", () -> x.temperature(none));
        int minus = x.whole(-6);
        stops(x, minus, -6, -6);
    }

    private static void coldOnes() {
        Thermographica x = new Thermographica();
        int nought = x.whole(0);
        int star = x.heap(1);
        int up = Check.made(x, Check.of(nought), Check.of(star));
        for (int game : new int[] {star, up, x.sum(up, up)}) {
            stops(x, game, 0, 0);
            Check.same("temperature of " + game, x.temperature(game), 0.0);
            Check.same("mean of " + game, x.mean(game), 0.0);
            walls(x, game, 0, 0, 0);
            walls(x, game, 16, 0, 0);
        }
        int one = x.whole(1);
        int oneStar = Check.made(x, Check.of(one), Check.of(one));
        stops(x, oneStar, 1, 1);
        Check.same("temperature of {1|1}", x.temperature(oneStar), 0.0);
        Check.same("mean of {1|1}", x.mean(oneStar), 1.0);
        walls(x, oneStar, 5, 1, 1);
    }

    /** {{4|0}|-2}: Left's option cools to 2 at 2, its wall at 1 is 1. */
    private static void bentWalls() {
        Thermographica x = new Thermographica();
        int nought = x.whole(0);
        int hot = Check.made(x, Check.of(x.whole(4)), Check.of(nought));
        int game = Check.made(x, Check.of(hot), Check.of(x.whole(-2)));
        stops(x, game, 0, -2);
        walls(x, game, 0, 0, -2);
        walls(x, game, 16, 0, -1);
        walls(x, game, 24, 0, -0.5);
        Check.same("temperature of {{4|0}|-2}", x.temperature(game), 2.0);
        Check.same("mean of {{4|0}|-2}", x.mean(game), 0.0);
        int later = Check.made(x, Check.of(hot), Check.of(x.whole(-6)));
        Check.same("temperature of {{4|0}|-6}", x.temperature(later), 4.0);
        Check.same("mean of {{4|0}|-6}", x.mean(later), -2.0);
        walls(x, later, 32, 0, -4);
        walls(x, later, 48, -1, -3);
        walls(x, later, 64, -2, -2);
        int one = x.whole(1);
        int chosen = Check.made(x, Check.of(hot, one), Check.of(x.whole(-6)));
        walls(x, chosen, 0, 1, -6);
        walls(x, chosen, 8, 0.5, -5.5);
        walls(x, chosen, 16, 0, -5);
        walls(x, chosen, 24, 0, -4.5);
        walls(x, chosen, 32, 0, -4);
        Check.same("temperature of {1,{4|0}|-6}", x.temperature(chosen), 4.0);
        int down = x.turned(chosen);
        walls(x, down, 8, 5.5, -0.5);
        walls(x, down, 24, 4.5, 0);
        Check.same("mean of the turned one", x.mean(down), 2.0);
    }

    /** Both walls are level as long as both options are hot: the gap stays, and only closes behind it. */
    private static void levelWalls() {
        Thermographica x = new Thermographica();
        int nought = x.whole(0);
        int small = nought;
        int next = x.whole(-1);
        for (int i = 0; i < 3; i++) {
            next = Check.made(x, Check.of(next), Check.of(nought));
            small = next;
        }
        Check.same("a small number", x.number(small), -0.125);
        int up = Check.made(x, Check.of(x.whole(4)), Check.of(nought));
        int down = Check.made(x, Check.of(small), Check.of(x.whole(-4)));
        int game = Check.made(x, Check.of(up), Check.of(down));
        stops(x, game, 0, -0.125);
        walls(x, game, 16, 0, -0.125);
        walls(x, game, 30, 0, -0.125);
        Check.same("temperature", x.temperature(game), 2.03125);
        Check.same("mean", x.mean(game), -0.03125);
        walls(x, game, 32, 0, -0.0625);
        walls(x, game, 33, -0.03125, -0.03125);
    }

    /** The smallest temperatures: a game of depth 12 over the smallest numbers. */
    private static void smallHeat() {
        Thermographica x = new Thermographica();
        int nought = x.whole(0);
        int last = x.whole(1);
        double due = 1;
        for (int i = 2; i <= 11; i++) {
            last = Check.made(x, Check.of(nought), Check.of(last));
            due = due / 2;
        }
        int game = Check.made(x, Check.of(last), Check.of(nought));
        Check.same("depth", x.depth(game), 12);
        stops(x, game, due, 0);
        Check.same("temperature of {1/1024|0}", x.temperature(game), due / 2);
        Check.same("mean of {1/1024|0}", x.mean(game), due / 2);
        walls(x, game, 0, due, 0);
        walls(x, game, 1, due / 2, due / 2);
    }

    private static void wrongInputs() {
        Thermographica x = new Thermographica();
        x.heap(1);
        x.whole(1);
        for (int game : new int[] {-1, 2, 24, Integer.MIN_VALUE, Integer.MAX_VALUE}) {
            Check.noGame("stop", () -> x.stop(game, true));
            Check.noGame("wall", () -> x.wall(game, false, 0));
            Check.noGame("wall with both wrong", () -> x.wall(game, false, 401));
            Check.noGame("temperature", () -> x.temperature(game));
            Check.noGame("mean", () -> x.mean(game));
        }
        for (int sixteenths : new int[] {-1, 401, Integer.MIN_VALUE, Integer.MAX_VALUE}) {
            Check.illegal("wall of *", () -> x.wall(0, true, sixteenths));
            Check.illegal("wall of 1", () -> x.wall(1, false, sixteenths));
        }
        Check.same("wall at 0", x.wall(0, true, 0), 0.0);
        Check.same("wall at 400", x.wall(0, true, 400), 0.0);
        Check.same("nothing changed", x.isSound(), true);
    }
}
