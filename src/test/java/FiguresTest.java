/** Promises 31 to 33: moves, numberShare and isSound; and an object that is used for 512 calls. */
public final class FiguresTest {
    public static void main(String[] args) {
        countsMoves();
        shares();
        sound();
        manyCalls();
        Check.end("FiguresTest");
    }

    private static void countsMoves() {
        Thermographica x = new Thermographica();
        Check.same("moves without a play", x.moves(), 0);
        int heap = x.heap(2);
        x.begin(heap, true);
        Check.same("begin is no move", x.moves(), 0);
        x.move(1);
        x.takeBack();
        Check.same("taking back leaves the count", x.moves(), 1);
        Check.noGame("a wrong move", () -> x.move(2));
        Check.same("a wrong move is none", x.moves(), 1);
        x.begin(heap, false);
        x.move(0);
        Check.same("the next play adds", x.moves(), 2);
    }

    private static void shares() {
        Thermographica x = new Thermographica();
        Check.fails("numberShare without games", ArithmeticException.class, x::numberShare);
        int star = x.heap(1);
        Check.same("no number in one", x.numberShare(), 0.0);
        int none = x.sum(star, star);
        Check.same("* + * is a number", x.numberShare(), 0.5);
        x.tellOption(true, none);
        x.make();
        Check.same("two of three, as float", x.numberShare(), (double) (2f / 3f));
        x.heap(2);
        x.heap(3);
        x.heap(4);
        x.heap(5);
        Check.same("two of seven, as float", x.numberShare(), (double) (2f / 7f));
        Thermographica all = new Thermographica();
        all.whole(1);
        all.heap(0);
        Check.same("all are numbers", all.numberShare(), 1.0);
    }

    private static void sound() {
        Thermographica x = new Thermographica();
        Check.same("without games", x.isSound(), true);
        int star = x.heap(1);
        Check.same("with one game", x.isSound(), true);
        int nought = x.whole(0);
        int up = Check.made(x, Check.of(nought), Check.of(star));
        x.sum(up, star);
        x.turned(up);
        x.whole(-3);
        Check.same("with all kinds of games", x.isSound(), true);
        x.begin(up, false);
        Check.same("with a play", x.isSound(), true);
        x.move(0);
        x.move(0);
        Check.same("with moves", x.isSound(), true);
        x.takeBack();
        Check.same("with one that was taken back", x.isSound(), true);
        x.begin(star, true);
        Check.same("with another play", x.isSound(), true);
    }

    /** The dearest games, asked until the 512th call. */
    private static void manyCalls() {
        Thermographica x = new Thermographica();
        int wide = x.sum(x.sum(x.heap(4), x.heap(1)), x.heap(3));
        int calls = 5;
        for (; calls < 24; calls++) {
            x.turned(wide);
        }
        for (; calls < 511; calls++) {
            if (calls % 5 == 0) {
                Check.same("isSound, call " + calls, x.isSound(), true);
            } else if (calls % 5 == 1) {
                Check.same("compareByPlay, call " + calls, x.compareByPlay(calls % 24, calls * 7 % 24) != ' ', true);
            } else if (calls % 5 == 2) {
                Check.same("heapOf, call " + calls, x.heapOf(wide), 6);
            } else if (calls % 5 == 3) {
                Check.tooMuch("sum, call " + calls, () -> x.sum(wide, wide));
            } else {
                Check.same("write, call " + calls, x.write(wide), 2);
            }
        }
        Check.same("the last call", x.numberShare(), 0.0);
    }
}
