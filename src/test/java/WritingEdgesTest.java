/** The term "Writing" and promises 19 and 20 at their edges: a method for each sentence that names one. */
public final class WritingEdgesTest {
    public static void main(String[] args) {
        wholeNumbers();
        fractions();
        heaps();
        otherOnes();
        shorterOnesFirst();
        thenByTheFirstCharacter();
        numbersByCharacters();
        lengthIsReturned();
        inPlaceOfWhatWasWritten();
        twoHundred();
        beyondTwoHundred();
        overATooLongOne();
        noCharacterYet();
        noSuchCharacter();
        Check.end("WritingEdgesTest");
    }

    /** "a number by its digits, with '-' ahead if it is less than 0": of one digit and of two. */
    private static void wholeNumbers() {
        for (int from = -6; from <= 0; from += 6) {
            Thermographica x = new Thermographica();
            for (int n = from; n <= from + 6; n++) {
                Check.same("the text of " + n, Check.text(x, x.whole(n)), String.valueOf(n));
            }
        }
        Thermographica x = new Thermographica();
        int game = x.whole(6);
        for (int n = 7; n <= 12; n++) {
            game = Check.made(x, Check.of(game), Check.of());
            Check.same("the text of " + n, Check.text(x, game), String.valueOf(n));
            Check.same("the text of -" + n, Check.text(x, x.turned(game)), "-" + n);
        }
    }

    /** "and, if it is no whole number, '/' and the denominator". */
    private static void fractions() {
        Thermographica x = new Thermographica();
        int nought = x.whole(0);
        int game = x.whole(1);
        for (int under = 2; under <= 2048; under *= 2) {
            game = Check.made(x, Check.of(nought), Check.of(game));
            Check.same("the text of 1/" + under, Check.text(x, game), "1/" + under);
        }
        int turned = x.turned(game);
        Check.same("-1/2048", Check.text(x, turned), "-1/2048");
        Thermographica y = new Thermographica();
        int half = Check.made(y, Check.of(y.whole(0)), Check.of(y.whole(1)));
        Check.same("1/2 + 1/2 is whole", Check.text(y, y.sum(half, half)), "1");
        int more = Check.made(y, Check.of(half), Check.of(1));
        Check.same("3/4", Check.text(y, more), "3/4");
        int six = y.whole(6);
        Check.same("13/2", Check.text(y, y.sum(six, half)), "13/2");
        int last = y.sum(y.whole(-6), more);
        Check.same("-21/4", Check.text(y, last), "-21/4");
        Check.same("21/4", Check.text(y, y.turned(last)), "21/4");
        int eleven = Check.made(y, Check.of(Check.made(y, Check.of(more), Check.of(1))), Check.of(1));
        Check.same("15/16", Check.text(y, eleven), "15/16");
    }

    /** "a heap other than 0 as '*', and its number if it is not 1". */
    private static void heaps() {
        Thermographica x = new Thermographica();
        String[] due = {"0", "*", "*2", "*3", "*4", "*5", "*6"};
        for (int n = 0; n <= 6; n++) {
            Check.same("the heap of " + n, Check.text(x, x.heap(n)), due[n]);
            Check.same("turned", Check.text(x, x.turned(2 * n)), due[n]);
        }
        Check.same("*4 + *3", Check.text(x, x.sum(8, 6)), "*7");
        Check.same("*2 + *3", Check.text(x, x.sum(4, 6)), "*");
        Check.same("*3 + *3", Check.text(x, x.sum(6, 6)), "0");
        Check.same("{0,*|0,*}", Check.text(x, Check.made(x, Check.of(0, 2), Check.of(2, 0))), "*2");
        int one = x.whole(1);
        Check.same("1 + * is no heap", Check.text(x, x.sum(one, 2)), "{1|1}");
    }

    /** "other ones as '{', the options for Left with ',' between, '|', those for Right, '}'". */
    private static void otherOnes() {
        Thermographica x = new Thermographica();
        int up = Shelf.up(x);
        Check.same("one for each", Check.text(x, up), "{0|*}");
        Check.same("turned", Check.text(x, x.turned(up)), "{*|0}");
        Check.same("two for Left", Check.text(x, x.sum(up, 1)), "{*,0|0}");
        Check.same("a form within", Check.text(x, x.sum(up, up)), "{0|{*,0|0}}");
        int hot = Shelf.hot(x, 3, -4);
        Check.same("numbers", Check.text(x, hot), "{3|-4}");
        Check.same("forms on both sides", Check.text(x, Check.made(x, Check.of(hot), Check.of(Shelf.hot(x, -5, -6)))),
                "{{3|-4}|{-5|-6}}");
        int half = Check.made(x, Check.of(0), Check.of(x.whole(1)));
        Check.same("fractions", Check.text(x, Check.made(x, Check.of(half), Check.of(x.turned(half)))), "{1/2|-1/2}");
    }

    /** "the options in order: shorter ones first": for both players, however they were told. */
    private static void shorterOnesFirst() {
        Thermographica x = new Thermographica();
        int two = x.whole(2);
        int wide = Shelf.hot(x, 6, 5);
        int wider = Shelf.hot(x, 6, -2);
        int inner = Check.made(x, Check.of(wide), Check.of(x.whole(-3)));
        int minus = x.whole(-5);
        String due = "{2,{6|-2},{{6|5}|-3}|-5}";
        int[][] orders = {{two, wider, inner}, {inner, wider, two}, {wider, two, inner}, {two, inner, wider}};
        for (int[] order : orders) {
            int game = Check.made(x, order, Check.of(minus));
            Check.same("Left's options", Check.text(x, game), due);
        }
        int game = Check.made(x, orders[1], Check.of(minus));
        Check.same("Right's options", Check.text(x, x.turned(game)), "{5|-2,{2|-6},{3|{-5|-6}}}");
    }

    /** "then by the first character in which they differ": it may be the last one of all. */
    private static void thenByTheFirstCharacter() {
        Thermographica x = new Thermographica();
        int three = x.whole(-3);
        int first = Check.made(x, Check.of(x.whole(4)), Check.of(three));
        int second = Check.made(x, Check.of(x.whole(3)), Check.of(x.whole(-2)));
        int third = Check.made(x, Check.of(x.whole(2)), Check.of(x.whole(-1)));
        int least = x.whole(-6);
        int[][] orders = {{first, second, third}, {third, second, first}, {second, first, third}, {third, first, second}};
        for (int[] order : orders) {
            Check.same("the second character", Check.text(x, Check.made(x, order, Check.of(least))),
                    "{{2|-1},{3|-2},{4|-3}|-6}");
        }
        Thermographica y = new Thermographica();
        int up = Shelf.up(y);
        int star = 1;
        int hot = Check.made(y, Check.of(y.whole(3)), Check.of(y.heap(2)));
        int other = Check.made(y, Check.of(y.whole(3)), Check.of(y.heap(3)));
        int game = Check.made(y, Check.of(other, hot), Check.of(y.whole(-1)));
        Check.same("a late character", Check.text(y, game), "{{3|*2},{3|*3}|-1}");
        Check.same("'*' ahead of '0'", Check.text(y, y.sum(star, up)), "{*,0|0}");
        Check.same("'*' ahead of '0' for Right", Check.text(y, y.turned(y.sum(star, up))), "{0|*,0}");
    }

    /** Characters are compared, not numbers: '*' is 42, '-' 45, '/' 47, '0' 48, '{' 123, '|' 124. */
    private static void numbersByCharacters() {
        Thermographica x = new Thermographica();
        int star = x.heap(2);
        int minus = x.whole(-1);
        int hot = Check.made(x, Check.of(x.whole(2)), Check.of(star));
        int other = Check.made(x, Check.of(x.whole(2)), Check.of(minus));
        int game = Check.made(x, Check.of(other, hot), Check.of(x.whole(-3)));
        Check.same("{2|*2} ahead of {2|-1}, which is less", Check.text(x, game), "{{2|*2}|-3}");
        int six = Check.made(x, Check.of(x.whole(4)), Check.of(minus));
        int pair = Check.made(x, Check.of(six, hot), Check.of(x.whole(-3)));
        Check.same("{2|*2} ahead of {4|-1}", Check.text(x, pair), "{{2|*2},{4|-1}|-3}");
        int minusTwo = x.whole(-2);
        int four = Check.made(x, Check.of(minus), Check.of(x.whole(-3)));
        int five = Check.made(x, Check.of(x.whole(4)), Check.of(x.whole(-4)));
        int third = Check.made(x, Check.of(four, five, minusTwo), Check.of(x.whole(-6)));
        Check.same("the shorter {4|-4} ahead of {-1|-3}", Check.text(x, third), "{-2,{4|-4},{-1|-3}|-6}");
    }

    /** "Returns the length." */
    private static void lengthIsReturned() {
        Thermographica x = new Thermographica();
        int up = Shelf.up(x);
        int[] games = {0, 1, up, x.whole(-6), x.turned(up), x.sum(up, up), Shelf.hot(x, 5, -5)};
        int[] due = {1, 1, 5, 2, 5, 11, 6};
        for (int i = 0; i < games.length; i++) {
            int length = due[i];
            Check.same("the length of game " + games[i], x.write(games[i]), length);
            Check.same("the length again", x.write(games[i]), length);
            x.charAt(length - 1);
            Check.noGame("the character behind the last", () -> x.charAt(length));
        }
    }

    /** "Writes the form of a game, in place of what was written": a longer one, a shorter one, an empty chance. */
    private static void inPlaceOfWhatWasWritten() {
        Thermographica x = new Thermographica();
        int nought = x.whole(0);
        int hot = Shelf.hot(x, 2, -3);
        x.write(hot);
        Check.same("first", Check.read(x, 6), "{2|-3}");
        x.write(nought);
        Check.same("a shorter one", x.charAt(0), '0');
        Check.noGame("nothing is left of the longer one", () -> x.charAt(1));
        x.write(hot);
        Check.same("a longer one", x.charAt(5), '}');
        x.heap(3);
        x.tellOption(true, hot);
        x.make();
        x.begin(hot, true);
        x.move(0);
        x.compare(hot, nought);
        x.mean(hot);
        Check.same("other calls leave it", Check.read(x, 6), "{2|-3}");
    }

    /**
     * A game whose text is 198 characters long, and as many as that of the number besides. It needs ten games, and
     * the number must be greater than 0.
     */
    private static int longOne(Thermographica x, int number) {
        int nought = x.whole(0);
        int minus = x.whole(-1);
        int a = Check.made(x, Check.of(minus), Check.of(minus));
        int b = Check.made(x, Check.of(nought), Check.of(a));
        int c = Check.made(x, Check.of(nought, b), Check.of(a, b));
        int d = Check.made(x, Check.of(nought), Check.of(c));
        int e = Check.made(x, Check.of(d), Check.of(c));
        int f = Check.made(x, Check.of(number), Check.of(d));
        return Check.made(x, Check.of(e, f), Check.of(d, c));
    }

    private static String longText(String number) {
        String c = "{0,{0|{-1|-1}}|{-1|-1},{0|{-1|-1}}}";
        String d = "{0|" + c + "}";
        return "{{" + number + "|" + d + "},{" + d + "|" + c + "}|" + c + "," + d + "}";
    }

    /** "if it would be longer than 200": 199 and 200 are not. */
    private static void twoHundred() {
        Thermographica x = new Thermographica();
        int shorter = longOne(x, x.whole(2));
        Check.same("a text of 199", x.write(shorter), 199);
        Check.same("read", Check.read(x, 199), longText("2"));
        Check.noGame("there is no character 199", () -> x.charAt(199));
        Thermographica y = new Thermographica();
        int full = longOne(y, Shelf.chain(y, 10));
        Check.same("a text of 200", y.write(full), 200);
        Check.same("its last character", y.charAt(199), '}');
        Check.noGame("there is no character 200", () -> y.charAt(200));
        Check.same("read", Check.read(y, 200), longText("10"));
        Check.same("written again", y.write(full), 200);
        Check.same("its depth", y.depth(full), 12);
    }

    /** "if it would be longer than 200": 201 is, and what was written stays. */
    private static void beyondTwoHundred() {
        Thermographica x = new Thermographica();
        int number = Check.made(x, Check.of(x.whole(1)), Check.of(x.whole(2)));
        int game = longOne(x, number);
        Check.tooMuch("a text of 201", () -> x.write(game));
        Check.noGame("nothing was written", () -> x.charAt(0));
        Check.same("an option of it", x.write(game - 1), 45);
        Check.tooMuch("a text of 201 again", () -> x.write(game));
        Check.same("what was written stays", Check.read(x, 5), "{3/2|");
        Check.noGame("and as long as it was", () -> x.charAt(45));
        Check.same("it can be asked all the same", x.stop(game, true) >= x.stop(game, false), true);
        Check.same("as do its options", x.options(game, true) * 10 + x.options(game, false), 22);
        Check.same("written behind it", Check.text(x, number), "3/2");
    }

    /** Games that are over or under a too long one. */
    private static void overATooLongOne() {
        Thermographica x = new Thermographica();
        int number = Check.made(x, Check.of(x.whole(1)), Check.of(x.whole(2)));
        int game = longOne(x, number);
        int six = x.whole(-6);
        int over = Check.made(x, Check.of(game), Check.of(six));
        int overRight = Check.made(x, Check.of(x.whole(6)), Check.of(game));
        Check.tooMuch("with a too long option for Left", () -> x.write(over));
        Check.tooMuch("with a too long option for Right", () -> x.write(overRight));
        int answered = Check.made(x, Check.of(game), Check.of());
        Check.same("with one that is answered at once", Check.text(x, answered).length() < 100, true);
        Check.tooMuch("the long one itself", () -> x.write(game));
        int minus = x.turned(game);
        Check.same("turned it is shorter, as -1 is more often there than 1 would be", x.write(minus) < 200, true);
        Check.same("its parts are written", Check.text(x, game - 2).length(), 77);
    }

    /** "if there is no such character": before anything was written there is none. */
    private static void noCharacterYet() {
        Thermographica x = new Thermographica();
        for (int index : new int[] {0, -1, 1, 199, Integer.MIN_VALUE, Integer.MAX_VALUE}) {
            Check.noGame("charAt(" + index + ") without games", () -> x.charAt(index));
        }
        x.whole(3);
        Check.noGame("charAt(0) with a game that was not written", () -> x.charAt(0));
        Check.noGame("write of no game", () -> x.write(1));
        Check.noGame("charAt(0) behind a refused write", () -> x.charAt(0));
        x.write(0);
        Check.same("charAt(0) behind write", x.charAt(0), '3');
    }

    /** "the index, from 0": below 0 and from the length on there is none. */
    private static void noSuchCharacter() {
        Thermographica x = new Thermographica();
        int hot = Shelf.hot(x, 6, -6);
        Check.same("the length", x.write(hot), 6);
        String due = "{6|-6}";
        for (int i = 0; i < 6; i++) {
            Check.same("character " + i, x.charAt(i), due.charAt(i));
        }
        for (int index : new int[] {-1, 6, 7, 200, Integer.MIN_VALUE, Integer.MAX_VALUE}) {
            Check.noGame("character " + index, () -> x.charAt(index));
        }
        Check.same("the text stays", Check.read(x, 6), due);
    }
}
