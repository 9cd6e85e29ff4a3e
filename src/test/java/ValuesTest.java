/** Promises 11 to 20: order, values, forms and texts. */
public final class ValuesTest {
    public static void main(String[] args) {
        orders();
        outcomes();
        kinds();
        numbers();
        heaps();
        forms();
        texts();
        textOrder();
        longTexts();
        noGames();
        Check.end("ValuesTest");
    }

    private static void orders() {
        Thermographica x = new Thermographica();
        int nought = x.whole(0);
        int one = x.whole(1);
        int star = x.heap(1);
        int up = Check.made(x, Check.of(nought), Check.of(star));
        int emptyHeap = x.heap(0);
        int switched = Check.made(x, Check.of(one), Check.of(x.whole(-1)));
        both(x, nought, one, '<');
        both(x, one, nought, '>');
        both(x, nought, nought, '=');
        both(x, nought, emptyHeap, '=');
        both(x, nought, star, '|');
        both(x, star, one, '<');
        both(x, up, nought, '>');
        both(x, nought, up, '<');
        both(x, up, star, '|');
        both(x, up, one, '<');
        both(x, switched, one, '|');
        both(x, switched, nought, '|');
        both(x, switched, x.whole(2), '<');
        both(x, switched, x.turned(switched), '=');
        both(x, x.sum(star, star), nought, '=');
        both(x, x.sum(up, up), star, '>');
    }

    private static void both(Thermographica x, int first, int second, char due) {
        Check.same("compare(" + first + ", " + second + ")", x.compare(first, second), due);
        Check.same("compareByPlay(" + first + ", " + second + ")", x.compareByPlay(first, second), due);
        Check.same("compareByPlay again", x.compareByPlay(first, second), due);
    }

    private static void outcomes() {
        Thermographica x = new Thermographica();
        int nought = x.whole(0);
        int star = x.heap(1);
        Check.same("outcome of 0", x.outcome(nought), 'P');
        Check.same("outcome of *", x.outcome(star), 'N');
        Check.same("outcome of 2", x.outcome(x.whole(2)), 'L');
        Check.same("outcome of -2", x.outcome(x.whole(-2)), 'R');
        int up = Check.made(x, Check.of(nought), Check.of(star));
        Check.same("outcome of up", x.outcome(up), 'L');
        Check.same("outcome of down", x.outcome(x.turned(up)), 'R');
        Check.same("outcome of * + *", x.outcome(x.sum(star, star)), 'P');
        Check.same("outcome of up + *", x.outcome(x.sum(up, star)), 'N');
    }

    private static void kinds() {
        Thermographica x = new Thermographica();
        int nought = x.whole(0);
        int one = x.whole(1);
        int star = x.heap(1);
        int up = Check.made(x, Check.of(nought), Check.of(star));
        Check.same("0 is a number", x.kindOf(nought), 'n');
        Check.same("the heap of 0 is a number", x.kindOf(x.heap(0)), 'n');
        Check.same("* is a heap", x.kindOf(star), '*');
        Check.same("*6 is a heap", x.kindOf(x.heap(6)), '*');
        Check.same("up is infinitesimal", x.kindOf(up), 'i');
        Check.same("{1|0} is hot", x.kindOf(Check.made(x, Check.of(one), Check.of(nought))), 'h');
        Check.same("{1|1} is another one", x.kindOf(Check.made(x, Check.of(one), Check.of(one))), 'o');
        Check.same("1 + up is another one", x.kindOf(x.sum(one, up)), 'o');
        Check.same("{0|1} is a number", x.kindOf(Check.made(x, Check.of(nought), Check.of(one))), 'n');
        Check.same("* + * is a number", x.kindOf(x.sum(star, star)), 'n');
        int tiny = Check.made(x, Check.of(nought), Check.of(Check.made(x, Check.of(nought), Check.of(x.whole(-1)))));
        Check.same("{0||0|-1} is infinitesimal", x.kindOf(tiny), 'i');
    }

    private static void numbers() {
        Thermographica x = new Thermographica();
        int nought = x.whole(0);
        int one = x.whole(1);
        int half = Check.made(x, Check.of(nought), Check.of(one));
        Check.same("{0|1}", x.number(half), 0.5);
        int threeQuarters = Check.made(x, Check.of(half), Check.of(one));
        Check.same("{1/2|1}", x.number(threeQuarters), 0.75);
        Check.same("-3/4", x.number(x.turned(threeQuarters)), -0.75);
        Check.same("3/4 + 3/4", x.number(x.sum(threeQuarters, threeQuarters)), 1.5);
        Check.same("{0|6} is the simplest number between", x.number(Check.made(x, Check.of(nought), Check.of(x.whole(6)))), 1.0);
        Check.same("{-6|6}", x.number(Check.made(x, Check.of(x.whole(-6)), Check.of(x.whole(6)))), 0.0);
        Check.same("{|6}", x.number(Check.made(x, Check.of(), Check.of(x.whole(6)))), 0.0);
        Check.same("{6|}", x.number(Check.made(x, Check.of(x.whole(6)), Check.of())), 7.0);
        int star = x.heap(1);
        Check.same("{*|}", x.number(Check.made(x, Check.of(star), Check.of())), 0.0);
        Check.none("number of *", () -> x.number(star));
        int switched = Check.made(x, Check.of(one), Check.of(nought));
        Check.none("number of {1|0}", () -> x.number(switched));
        smallest();
    }

    /** {0|1}, {0|1/2} and so on: as deep as games are, 12 moves. */
    private static void smallest() {
        Thermographica x = new Thermographica();
        int nought = x.whole(0);
        int last = x.whole(1);
        double due = 1;
        for (int i = 2; i <= 12; i++) {
            last = Check.made(x, Check.of(nought), Check.of(last));
            due = due / 2;
            Check.same("the number of birthday " + i, x.number(last), due);
            Check.same("its birthday", x.birthday(last), i);
            Check.same("its mean", x.mean(last), due);
        }
        Check.same("its text", Check.text(x, last), "1/2048");
    }

    private static void heaps() {
        Thermographica x = new Thermographica();
        int nought = x.whole(0);
        Check.same("0 is the heap of 0", x.heapOf(nought), 0);
        int one = x.whole(1);
        Check.none("1 is no heap", () -> x.heapOf(one));
        int star = x.heap(1);
        int four = x.heap(4);
        int three = x.heap(3);
        Check.same("*4 + *3", x.heapOf(x.sum(four, three)), 7);
        Check.same("*3 + *", x.heapOf(x.sum(three, star)), 2);
        Check.same("*3 + *3", x.heapOf(x.sum(three, three)), 0);
        int gap = Check.made(x, Check.of(nought, star, three), Check.of(nought, star, four));
        Check.same("{0,*,*3|0,*,*4} is the least that is missing", x.heapOf(gap), 2);
        int up = Check.made(x, Check.of(nought), Check.of(star));
        Check.none("up is no heap", () -> x.heapOf(up));
        int lame = Check.made(x, Check.of(nought, star), Check.of(nought));
        Check.none("{0,*|0} is no heap", () -> x.heapOf(lame));
        int two = Check.made(x, Check.of(nought, star), Check.of(nought, star));
        Check.same("{0,*|0,*} is *2", x.heapOf(two), 2);
        Check.same("kind of it", x.kindOf(two), '*');
    }

    private static void forms() {
        Thermographica x = new Thermographica();
        int nought = x.whole(0);
        int one = x.whole(1);
        int two = x.whole(2);
        int star = x.heap(1);
        int worse = Check.made(x, Check.of(nought, two, one), Check.of(nought, x.whole(-1)));
        Check.same("of {0,2,1|0,-1} the worse are left out", Check.text(x, worse), "{2|-1}");
        Check.same("Left's options", x.options(worse, true), 1);
        Check.same("Right's options", x.options(worse, false), 1);
        Check.same("birthday", x.birthday(worse), 3);
        int equal = Check.made(x, Check.of(nought, x.heap(0), x.sum(star, star)), Check.of(star));
        Check.same("of equal ones all but one are left out", x.options(equal, true), 1);
        Check.same("{0|*}", Check.text(x, equal), "{0|*}");
        int answered = Check.made(x, Check.of(star), Check.of(one));
        Check.same("in {*|1} Left's * is answered at once", Check.text(x, answered), "0");
        Check.same("no option is left", x.options(answered, true) + x.options(answered, false), 0);
        int up = Check.made(x, Check.of(nought), Check.of(star));
        int upStar = x.sum(up, star);
        Check.same("up + *", Check.text(x, upStar), "{*,0|0}");
        int upUp = x.sum(up, up);
        Check.same("up + up", Check.text(x, upUp), "{0|{*,0|0}}");
        Check.same("up + up by options", x.options(upUp, true) * 10 + x.options(upUp, false), 11);
        Check.same("birthday of up + up", x.birthday(upUp), 3);
        Check.same("depth of up + up", x.depth(upUp), 4);
        int five = x.heap(5);
        Check.same("birthday of the heap of 5", x.birthday(five), 5);
        Check.same("options of the heap of 5", x.options(five, true), 5);
        Check.same("birthday of 0", x.birthday(nought), 0);
        Check.same("birthday of * + *", x.birthday(x.sum(star, star)), 0);
    }

    private static void texts() {
        Thermographica x = new Thermographica();
        int nought = x.whole(0);
        Check.same("write gives the length", x.write(nought), 1);
        Check.same("the text of 0", x.charAt(0), '0');
        Check.noGame("charAt(1)", () -> x.charAt(1));
        Check.noGame("charAt(-1)", () -> x.charAt(-1));
        int minus = x.whole(-6);
        Check.same("-6", Check.text(x, minus), "-6");
        Check.noGame("write(99)", () -> x.write(99));
        Check.same("what was written stays", Check.read(x, 2), "-6");
        Check.same("11", Check.text(x, x.sum(Check.made(x, Check.of(x.whole(6)), Check.of()), x.whole(4))), "11");
        int star = x.heap(1);
        Check.same("*", Check.text(x, star), "*");
        Check.same("*6", Check.text(x, x.heap(6)), "*6");
        int half = Check.made(x, Check.of(nought), Check.of(x.whole(1)));
        Check.same("1/2", Check.text(x, half), "1/2");
        Check.same("-1/2", Check.text(x, x.turned(half)), "-1/2");
        int more = x.sum(half, x.whole(2));
        Check.same("5/2", Check.text(x, more), "5/2");
        Check.same("{5/2|-1/2}", Check.text(x, Check.made(x, Check.of(more), Check.of(x.turned(half)))), "{5/2|-1/2}");
        Check.same("written twice", Check.text(x, star), "*");
        x.make();
        Check.same("what is written stays when games are made", x.charAt(0), '*');
    }

    /** Shorter ones first, then by the first character in which they differ. */
    private static void textOrder() {
        Thermographica x = new Thermographica();
        int nought = x.whole(0);
        int two = x.whole(2);
        int twoNought = Check.made(x, Check.of(two), Check.of(nought));
        int oneMinus = Check.made(x, Check.of(x.whole(1)), Check.of(x.whole(-1)));
        int game = Check.made(x, Check.of(twoNought, two), Check.of(oneMinus, nought));
        Check.same("shorter ones first", Check.text(x, game), "{2,{2|0}|0,{1|-1}}");
        int threes = Check.made(x, Check.of(x.whole(3)), Check.of(x.whole(-3)));
        int twos = Check.made(x, Check.of(two), Check.of(x.whole(-2)));
        int hot = Check.made(x, Check.of(threes, twos), Check.of(x.whole(-5)));
        Check.same("of the same length by characters", Check.text(x, hot), "{{2|-2},{3|-3}|-5}");
        Check.same("turned", Check.text(x, x.turned(hot)), "{5|{2|-2},{3|-3}}");
        int star = x.heap(1);
        int many = Check.made(x, Check.of(x.heap(2), nought, star), Check.of(nought, star));
        Check.same("'*' comes before '0'", Check.text(x, many), "{*,0,*2|*,0}");
    }

    /** A text of 200 characters stands, one of 201 does not. */
    private static void longTexts() {
        Thermographica x = new Thermographica();
        int[] g = new int[24];
        wholesOf(x, g);
        g[5] = Check.made(x, Check.of(g[3]), Check.of(g[3], g[2], g[4], g[0]));
        g[6] = Check.made(x, Check.of(g[2], g[0], g[2]), Check.of(g[4], g[0], g[2], g[5]));
        g[7] = Check.made(x, Check.of(g[4]), Check.of(g[4], g[5]));
        g[8] = Check.made(x, Check.of(g[7]), Check.of(g[2], g[2], g[2], g[3]));
        g[9] = Check.made(x, Check.of(g[3], g[7], g[4], g[3]), Check.of(g[5], g[7]));
        g[10] = Check.made(x, Check.of(g[1], g[7], g[8], g[2]), Check.of(g[8]));
        g[11] = Check.made(x, Check.of(g[1], g[10], g[6], g[4]), Check.of(g[9]));
        g[12] = Check.made(x, Check.of(g[11]), Check.of(g[9]));
        g[13] = Check.made(x, Check.of(g[11], g[1], g[7], g[7]), Check.of(g[8], g[0], g[7]));
        g[14] = Check.made(x, Check.of(g[12], g[2], g[12], g[0]), Check.of(g[12], g[12], g[13]));
        g[15] = Check.made(x, Check.of(g[12], g[14]), Check.of(g[3]));
        String inner = "{0|{0,{0|{-1|-1}}|{-1|-1},{0|{-1|-1}}}}|{0,{0|{-1|-1}}|{-1|-1},{0|{-1|-1}}}";
        Check.same("a text of 200", Check.text(x, g[15]),
                "{{" + inner + "},{2|" + inner.substring(40) + ",{" + inner + "}}|-1}");
        Check.same("its length", x.write(g[15]), 200);
        Check.noGame("there is no character 200", () -> x.charAt(200));
        Check.same("character 199", x.charAt(199), '}');
        tooLongTexts();
    }

    private static void wholesOf(Thermographica x, int[] g) {
        int[] numbers = {2, -2, 1, -1, 0};
        for (int i = 0; i < numbers.length; i++) {
            g[i] = x.whole(numbers[i]);
        }
    }

    private static void tooLongTexts() {
        Thermographica x = new Thermographica();
        int[] g = new int[24];
        wholesOf(x, g);
        g[5] = Check.made(x, Check.of(g[1], g[1], g[2], g[1]), Check.of(g[4], g[4], g[0]));
        g[6] = Check.made(x, Check.of(g[3], g[1]), Check.of(g[1]));
        g[8] = Check.made(x, Check.of(g[2], g[3], g[4], g[3]), Check.of(g[5], g[0], g[4]));
        g[9] = Check.made(x, Check.of(g[3]), Check.of(g[4], g[6], g[3]));
        g[10] = Check.made(x, Check.of(g[5], g[2], g[4]), Check.of(g[2], g[4], g[9]));
        g[12] = Check.made(x, Check.of(g[10], g[9], g[10], g[8]), Check.of(g[3], g[9], g[6], g[3]));
        g[14] = Check.made(x, Check.of(g[9], g[0], g[9]), Check.of(g[10], g[2], g[12]));
        g[18] = Check.made(x, Check.of(g[0]), Check.of(g[14]));
        int longest = Check.made(x, Check.of(g[4], g[3], g[0], g[14]), Check.of(g[14], g[18]));
        int shorter = x.write(g[18]);
        Check.same("an option of it", shorter, 100);
        Check.tooMuch("a text of 201", () -> x.write(longest));
        Check.tooMuch("a text of 201 again", () -> x.write(longest));
        Check.same("what was written stays", Check.read(x, shorter).substring(0, 10), "{2|{2|{1,{");
        Check.noGame("as long as it was", () -> x.charAt(shorter));
        Check.tooMuch("a text with a too long option", () -> x.write(Check.made(x, Check.of(longest), Check.of(g[1]))));
        Check.noGame("no such game comes before", () -> x.write(99));
    }

    private static void noGames() {
        Thermographica x = new Thermographica();
        x.whole(1);
        for (int game : new int[] {-1, 1, 24, Integer.MIN_VALUE, Integer.MAX_VALUE}) {
            Check.noGame("compare first", () -> x.compare(game, 0));
            Check.noGame("compare second", () -> x.compare(0, game));
            Check.noGame("compareByPlay first", () -> x.compareByPlay(game, 0));
            Check.noGame("compareByPlay second", () -> x.compareByPlay(0, game));
            Check.noGame("outcome", () -> x.outcome(game));
            Check.noGame("kindOf", () -> x.kindOf(game));
            Check.noGame("number", () -> x.number(game));
            Check.noGame("heapOf", () -> x.heapOf(game));
            Check.noGame("birthday", () -> x.birthday(game));
            Check.noGame("options", () -> x.options(game, true));
            Check.noGame("write", () -> x.write(game));
            Check.noGame("charAt", () -> x.charAt(game));
        }
    }
}
