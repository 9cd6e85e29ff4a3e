/** Promises 25 to 30: begin, move, takeBack, canWin, winningMove and mistake. */
public final class PlayTest {
    public static void main(String[] args) {
        withoutPlay();
        beginning();
        moving();
        takingBack();
        winning();
        mistakes();
        longPlay();
        Check.end("PlayTest");
    }

    private static void withoutPlay() {
        Thermographica x = new Thermographica();
        x.heap(2);
        Check.badState("move", () -> x.move(0));
        Check.badState("move with a wrong number", () -> x.move(-1));
        Check.none("takeBack", x::takeBack);
        Check.badState("canWin", x::canWin);
        Check.badState("winningMove", x::winningMove);
        Check.badState("mistake", x::mistake);
        Check.noGame("begin(1, true)", () -> x.begin(1, true));
        Check.noGame("begin(-1, true)", () -> x.begin(-1, true));
        Check.badState("no play was begun by these", x::canWin);
        Check.same("no move was counted", x.moves(), 0);
    }

    private static void beginning() {
        Thermographica x = new Thermographica();
        int two = x.whole(2);
        int heap = x.heap(3);
        Check.same("2 for Left", x.begin(two, true), 1);
        Check.same("2 for Right", x.begin(two, false), 0);
        Check.same("*3 for Left", x.begin(heap, true), 3);
        x.move(1);
        Check.noGame("begin(99, true)", () -> x.begin(99, true));
        Check.same("the play goes on", x.takeBack(), 0);
        x.move(1);
        Check.same("begin in place of another play", x.begin(heap, false), 3);
        Check.none("no move was made in the new one", x::takeBack);
    }

    private static void moving() {
        Thermographica x = new Thermographica();
        int sum = x.sum(x.whole(1), x.heap(2));
        Check.same("1 + *2 for Left", x.begin(sum, true), 3);
        Check.noGame("move(3)", () -> x.move(3));
        Check.noGame("move(-1)", () -> x.move(-1));
        Check.same("no move was counted", x.moves(), 0);
        Check.same("move(2) to 1 + *", x.move(2), 1);
        Check.same("Right's move to 1", x.move(0), 1);
        Check.same("Left's move to 0", x.move(0), 0);
        Check.noGame("there is none for Right", () -> x.move(0));
        Check.same("moves", x.moves(), 3);
        x.whole(5);
        Check.noGame("a new game changes no play", () -> x.move(0));
        x.begin(sum, false);
        Check.same("Right takes all of the heap", x.move(0), 1);
        Check.same("moves of both plays", x.moves(), 4);
    }

    private static void takingBack() {
        Thermographica x = new Thermographica();
        int heap = x.heap(3);
        x.begin(heap, true);
        Check.none("takeBack at the beginning", x::takeBack);
        x.move(2);
        x.move(1);
        x.move(0);
        Check.same("takeBack of three", x.takeBack(), 2);
        Check.same("takeBack of two", x.takeBack(), 1);
        Check.same("another move instead", x.move(0), 0);
        Check.same("takeBack of the other one", x.takeBack(), 1);
        Check.same("takeBack of one", x.takeBack(), 0);
        Check.none("takeBack of none", x::takeBack);
        Check.same("moves that were taken back count", x.moves(), 4);
        Check.same("the beginning is reached again", x.move(2), 2);
    }

    private static void winning() {
        Thermographica x = new Thermographica();
        int nought = x.whole(0);
        x.begin(nought, true);
        Check.same("who can't move has lost", x.canWin(), false);
        Check.none("no move wins in 0", x::winningMove);
        int sum = x.sum(x.heap(1), x.heap(3));
        x.begin(sum, true);
        Check.same("* + *3 is won", x.canWin(), true);
        Check.same("by *3 to *", x.winningMove(), 2);
        x.move(0);
        Check.same("*3 is won", x.canWin(), true);
        Check.same("by taking all", x.winningMove(), 0);
        x.takeBack();
        x.move(2);
        Check.same("* + * is lost", x.canWin(), false);
        Check.none("by no move", x::winningMove);
        int one = x.whole(1);
        int two = x.whole(-2);
        int more = Check.made(x, Check.of(two, one, nought), Check.of(nought));
        x.begin(more, true);
        Check.same("the lowest of two that win", x.winningMove(), 1);
        x.begin(more, false);
        Check.same("for Right", x.winningMove(), 0);
    }

    private static void mistakes() {
        Thermographica x = new Thermographica();
        int five = x.heap(5);
        int sum = x.sum(x.heap(1), five);
        x.begin(sum, true);
        Check.none("no move, no mistake", x::mistake);
        x.move(2);
        Check.none("a good move", x::mistake);
        x.move(0);
        Check.none("who loses anyhow throws nothing away", x::mistake);
        x.takeBack();
        x.takeBack();
        x.move(0);
        Check.same("the first move", x.mistake(), 0);
        x.move(2);
        Check.same("Right's is one too, but not the first", x.mistake(), 0);
        x.takeBack();
        x.takeBack();
        Check.none("what was taken back is no mistake", x::mistake);
        x.begin(five, false);
        x.move(4);
        x.move(3);
        Check.same("of two mistakes the first", x.mistake(), 0);
        x.takeBack();
        x.takeBack();
        x.move(0);
        Check.none("taking all wins", x::mistake);
        int three = Check.made(x, Check.of(five), Check.of(five));
        x.begin(three, true);
        x.move(0);
        x.move(3);
        Check.same("the other one's mistake", x.mistake(), 1);
        x.begin(three, true);
        Check.none("a new play has none", x::mistake);
    }

    /** As many moves as games are deep, and back again. */
    private static void longPlay() {
        Thermographica x = new Thermographica();
        int deep = x.sum(x.heap(5), x.heap(5));
        int deeper = Check.made(x, Check.of(deep), Check.of(deep));
        deeper = Check.made(x, Check.of(deeper), Check.of(deeper));
        Check.same("a depth of 12", x.depth(deeper), 12);
        x.begin(deeper, false);
        x.move(0);
        x.move(0);
        for (int i = 5; i > 0; i--) {
            Check.same("move in the first heap", x.move(i - 1), i - 1 + 5);
        }
        for (int i = 5; i > 0; i--) {
            Check.same("move in the second heap", x.move(i - 1), i - 1);
        }
        Check.noGame("a 13th move", () -> x.move(0));
        Check.same("moves", x.moves(), 12);
        Check.same("lost", x.canWin(), false);
        Check.same("sound", x.isSound(), true);
        for (int i = 11; i >= 0; i--) {
            Check.same("takeBack", x.takeBack(), i);
        }
        Check.none("no more", x::takeBack);
        Check.same("moves", x.moves(), 12);
    }
}
