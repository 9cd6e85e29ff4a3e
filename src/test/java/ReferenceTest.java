import java.util.Random;
import java.util.function.Supplier;

/** Long runs of calls by a fixed seed, each answer held against the Reference's. */
public final class ReferenceTest {
    private static final String[] ASKED = {"positions", "depth", "outcome", "kindOf", "number", "heapOf", "birthday",
        "options", "write", "stop", "wall", "temperature", "mean"};
    private static final int CALLS = 512;

    private static Thermographica x;
    private static Reference y;
    private static Random random;
    private static int gameCount;
    private static String run;
    private static int calls;

    public static void main(String[] args) {
        int runs = args.length > 0 ? Integer.parseInt(args[0]) : 1200;
        int from = args.length > 1 ? Integer.parseInt(args[1]) : 0;
        for (int seed = from; seed < from + runs; seed++) {
            oneRun(seed);
        }
        Check.end("ReferenceTest");
    }

    private static void oneRun(int seed) {
        x = new Thermographica();
        y = new Reference();
        random = new Random(seed);
        gameCount = 0;
        int style = seed % 5;
        calls = 0;
        for (int i = 0; i < CALLS; i++) {
            run = "run " + seed + ", step " + i + ": ";
            int kind = random.nextInt(100);
            if (kind < (gameCount < 24 ? 45 : 5)) {
                build(style);
            } else if (kind < 75) {
                askOne();
            } else if (kind < 95) {
                play();
            } else {
                figures();
            }
        }
    }

    private static int anyGame() {
        return random.nextInt(30) == 0 ? random.nextInt(40) - 8 : random.nextInt(Math.max(1, gameCount));
    }

    /** Later games are taken more often, so that games become deep. */
    private static int lateGame() {
        return random.nextBoolean() ? anyGame() : Math.max(0, gameCount - 1 - random.nextInt(4));
    }

    /** Numbers first, and then games of late ones, most of them with better options for Left: these are hot. */
    private static void buildHot() {
        int n = gameCount < 6 ? random.nextInt(13) - 6 : 0;
        if (gameCount < 6) {
            same("whole(" + n + ")", () -> String.valueOf(x.whole(n)), y.whole(n), true);
        } else if (random.nextInt(6) == 0) {
            int first = lateGame();
            int second = anyGame();
            same("sum(" + first + ", " + second + ")", () -> String.valueOf(x.sum(first, second)), y.sum(first, second), true);
        } else {
            tellSides();
            same("make()", () -> String.valueOf(x.make()), y.make(), true);
        }
    }

    private static void tellSides() {
        int options = 2 + random.nextInt(5);
        for (int i = 0; i < options; i++) {
            int one = lateGame();
            int other = lateGame();
            boolean isMore = y.compare(one, other, false).equals(">");
            same("tellOption(true, " + one + ")", () -> String.valueOf(x.tellOption(isMore, one)),
                    y.tellOption(isMore, one), false);
            if (i % 2 == 0) {
                same("tellOption(false, " + other + ")", () -> String.valueOf(x.tellOption(!isMore, other)),
                        y.tellOption(!isMore, other), false);
            }
        }
    }

    private static void build(int style) {
        if (style == 4) {
            buildHot();
            return;
        }
        int kind = random.nextInt(100);
        int limit = style == 0 ? 20 : style == 1 ? 45 : style == 2 ? 12 : 30;
        if (kind < limit / 2) {
            int n = random.nextInt(20) == 0 ? random.nextInt(30) - 15 : random.nextInt(style == 2 ? 13 : 5) - (style == 2 ? 6 : 2);
            same("whole(" + n + ")", () -> String.valueOf(x.whole(n)), y.whole(n), true);
        } else if (kind < limit) {
            int n = random.nextInt(20) == 0 ? random.nextInt(14) - 4 : random.nextInt(4);
            same("heap(" + n + ")", () -> String.valueOf(x.heap(n)), y.heap(n), true);
        } else if (kind < limit + (style == 3 ? 25 : 8)) {
            int first = anyGame();
            int second = anyGame();
            same("sum(" + first + ", " + second + ")", () -> String.valueOf(x.sum(first, second)), y.sum(first, second), true);
        } else if (kind < limit + 35) {
            int game = anyGame();
            if (random.nextInt(4) > 0) {
                makeSome();
            } else {
                same("turned(" + game + ")", () -> String.valueOf(x.turned(game)), y.turned(game), true);
            }
        } else {
            makeSome();
        }
    }

    private static void makeSome() {
        int options = random.nextInt(6);
        for (int i = 0; i < options; i++) {
            boolean isLeft = random.nextInt(2) == 0;
            int game = lateGame();
            same("tellOption(" + isLeft + ", " + game + ")", () -> String.valueOf(x.tellOption(isLeft, game)),
                    y.tellOption(isLeft, game), false);
        }
        if (random.nextInt(12) == 0) {
            same("clearOptions()", () -> String.valueOf(x.clearOptions()), y.clearOptions(), false);
        }
        same("make()", () -> String.valueOf(x.make()), y.make(), true);
    }

    private static void askOne() {
        int first = lateGame();
        int second = lateGame();
        if (random.nextInt(4) == 0) {
            same("compare(" + first + ", " + second + ")", () -> String.valueOf(x.compare(first, second)),
                    y.compare(first, second, false), false);
            same("compareByPlay(" + first + ", " + second + ")", () -> String.valueOf(x.compareByPlay(first, second)),
                    y.compare(first, second, true), false);
            return;
        }
        String what = ASKED[random.nextInt(ASKED.length)];
        boolean isLeft = random.nextBoolean();
        int sixteenths = random.nextInt(20) == 0 ? random.nextInt(600) - 100 : random.nextInt(80);
        same(what + "(" + first + ", " + isLeft + ", " + sixteenths + ")", () -> ask(what, first, isLeft, sixteenths),
                y.ask(what, first, isLeft, sixteenths), false);
        if (what.equals("write")) {
            int from = random.nextInt(4) == 0 ? 180 : random.nextInt(4) == 0 ? random.nextInt(200) : -1;
            for (int i = 0; i < 22; i++) {
                int index = from + i;
                same("charAt(" + index + ")", () -> String.valueOf(x.charAt(index)), y.charAt(index), false);
            }
        }
    }

    /** 0 is added to numbers so that 0 below and above are the same. */
    private static String ask(String what, int game, boolean isLeft, int sixteenths) {
        switch (what) {
            case "positions":
                return String.valueOf(x.positions(game));
            case "depth":
                return String.valueOf(x.depth(game));
            case "outcome":
                return String.valueOf(x.outcome(game));
            case "kindOf":
                return String.valueOf(x.kindOf(game));
            case "number":
                return String.valueOf(x.number(game) + 0.0);
            case "heapOf":
                return String.valueOf(x.heapOf(game));
            case "birthday":
                return String.valueOf(x.birthday(game));
            case "options":
                return String.valueOf(x.options(game, isLeft));
            case "write":
                return String.valueOf(x.write(game));
            case "stop":
                return String.valueOf(x.stop(game, isLeft) + 0.0);
            case "wall":
                return String.valueOf(x.wall(game, isLeft, sixteenths) + 0.0);
            case "temperature":
                return String.valueOf(x.temperature(game) + 0.0);
            default:
                return String.valueOf(x.mean(game) + 0.0);
        }
    }

    private static void play() {
        int kind = random.nextInt(10);
        int move = random.nextInt(20) == 0 ? random.nextInt(40) - 20 : random.nextInt(3);
        if (kind == 0) {
            int game = lateGame();
            boolean isLeft = random.nextBoolean();
            same("begin(" + game + ", " + isLeft + ")", () -> String.valueOf(x.begin(game, isLeft)),
                    y.begin(game, isLeft), false);
        } else if (kind < 5) {
            same("move(" + move + ")", () -> String.valueOf(x.move(move)), y.move(move), false);
        } else if (kind == 5) {
            same("takeBack()", () -> String.valueOf(x.takeBack()), y.takeBack(), false);
        }
        same("canWin()", () -> String.valueOf(x.canWin()), y.canWin(), false);
        same("winningMove()", () -> String.valueOf(x.winningMove()), y.winningMove(), false);
        same("mistake()", () -> String.valueOf(x.mistake()), y.mistake(), false);
    }

    private static void figures() {
        same("moves()", () -> String.valueOf(x.moves()), y.moves(), false);
        same("numberShare()", () -> String.valueOf(x.numberShare()), y.numberShare(), false);
        same("isSound()", () -> String.valueOf(x.isSound()), "true", false);
    }

    /** An object is used for 512 calls, and for none behind them: what the reference answers then is not asked. */
    private static void same(String call, Supplier<String> asked, String due, boolean isMade) {
        if (calls == CALLS) {
            return;
        }
        calls++;
        String got;
        try {
            got = asked.get();
        } catch (RuntimeException e) {
            got = e.getClass().getSimpleName();
        }
        Check.same(run + call, got, due);
        if (isMade && !due.endsWith("Exception")) {
            gameCount++;
        }
    }
}
