/** The terms "Order", "Forms" and "Values" and promises 11 to 18 at their edges: a method for each sentence. */
public final class FormEdgesTest {
    public static void main(String[] args) {
        orderOfNumbers();
        orderOfSmallOnes();
        orderOfHotOnes();
        gamesWithThemselves();
        leftOutIfAtMost();
        leftOutIfEqual();
        keptIfConfused();
        answeredAndReplacedByNone();
        answeredAndReplacedByOne();
        answeredAndReplacedBySeveral();
        answeredIfEqual();
        notAnsweredIfNotAtMost();
        answeredAgainAndAgain();
        bothAgainAndAgain();
        equalGames();
        birthdays();
        numbersByTheirOptions();
        betweenNumbersButNone();
        heapsOfForms();
        noHeaps();
        stopsOfForms();
        kinds();
        outcomes();
        optionsOfForms();
        Check.end("FormEdgesTest");
    }

    /** Both ways to compare, and both ways round. */
    private static void ordered(Thermographica x, String what, int first, int second, char due) {
        char swapped = due == '<' ? '>' : due == '>' ? '<' : due;
        Check.same(what, x.compare(first, second), due);
        Check.same(what + ", by play", x.compareByPlay(first, second), due);
        Check.same(what + ", swapped", x.compare(second, first), swapped);
        Check.same(what + ", swapped, by play", x.compareByPlay(second, first), swapped);
    }

    /** The form of a game, as it is written, and that the game is equal to it by play. */
    private static void formIs(Thermographica x, String what, int game, String due) {
        Check.same(what, Check.text(x, game), due);
        Check.same(what + " is sound", x.isSound(), true);
    }

    /** "x is less than y if it is at most y, and y is not at most x": whole numbers beside each other. */
    private static void orderOfNumbers() {
        Thermographica x = new Thermographica();
        for (int i = 0; i < 13; i++) {
            x.whole(i - 6);
        }
        for (int i = 0; i < 13; i++) {
            for (int j = 0; j < 13; j++) {
                char due = i < j ? '<' : i > j ? '>' : '=';
                Check.same("compare " + i + " and " + j, x.compare(i, j), due);
                Check.same("compareByPlay " + i + " and " + j, x.compareByPlay(i, j), due);
            }
        }
        Thermographica y = new Thermographica();
        int small = Shelf.fraction(y, 10);
        int smaller = Check.made(y, Check.of(0), Check.of(small));
        ordered(y, "1/1024 and 1/2048", small, smaller, '>');
        ordered(y, "0 and 1/2048", 0, smaller, '<');
        ordered(y, "-1/2048 and 0", y.turned(smaller), 0, '<');
        ordered(y, "-1/2048 and 1/2048", y.turned(smaller), smaller, '<');
    }

    /** "They are equal if each one is at most the other one"; "if none is at most the other one, they are confused." */
    private static void orderOfSmallOnes() {
        Thermographica x = new Thermographica();
        int up = Shelf.up(x);
        int nought = 0;
        int star = 1;
        int down = x.turned(up);
        int small = Shelf.fraction(x, 7);
        int twoUp = x.sum(up, up);
        int upStar = x.sum(up, star);
        ordered(x, "0 and *", nought, star, '|');
        ordered(x, "up and 0", up, nought, '>');
        ordered(x, "down and 0", down, nought, '<');
        ordered(x, "up and *", up, star, '|');
        ordered(x, "up + up and *", twoUp, star, '>');
        ordered(x, "up + * and 0", upStar, nought, '|');
        ordered(x, "up + up and up + *", twoUp, upStar, '|');
        ordered(x, "up + up and a small number", twoUp, small, '<');
        ordered(x, "* and a small number", star, small, '<');
        ordered(x, "up and down", up, down, '>');
        ordered(x, "the sum of both and 0", x.sum(up, down), nought, '=');
        ordered(x, "* and *2", star, x.heap(2), '|');
    }

    /** A switch is confused with all from its right end to its left one, both included, and with nothing else. */
    private static void orderOfHotOnes() {
        Thermographica x = new Thermographica();
        int game = Shelf.hot(x, 2, -1);
        int[] numbers = {-2, -1, 0, 1, 2, 3};
        char[] due = {'>', '|', '|', '|', '|', '<'};
        for (int i = 0; i < numbers.length; i++) {
            ordered(x, "{2|-1} and " + numbers[i], game, x.whole(numbers[i]), due[i]);
        }
        int beyond = Check.made(x, Check.of(x.whole(2)), Check.of(x.whole(3)));
        ordered(x, "{2|-1} and 5/2", game, beyond, '<');
        int warm = Check.made(x, Check.of(x.whole(1)), Check.of(x.whole(0)));
        ordered(x, "{2|-1} and {1|0}", game, warm, '|');
        int warmer = Check.made(x, Check.of(x.whole(2)), Check.of(x.whole(0)));
        ordered(x, "{2|-1} and {2|0}", game, warmer, '<');
    }

    /** "the number of another one, or the same": each game is equal to itself. */
    private static void gamesWithThemselves() {
        Thermographica x = new Thermographica();
        int up = Shelf.up(x);
        int game = Shelf.hot(x, 5, -2);
        x.sum(up, game);
        x.turned(game);
        x.whole(-6);
        x.heap(6);
        x.make();
        for (int i = 0; i < 11; i++) {
            Check.same("game " + i + " and itself", x.compare(i, i), '=');
            Check.same("game " + i + " and itself by play", x.compareByPlay(i, i), '=');
        }
    }

    /** "An option for Left that is at most another one is left out"; "for Right likewise if another one is at most it." */
    private static void leftOutIfAtMost() {
        Thermographica x = new Thermographica();
        int three = x.whole(3);
        int two = x.whole(2);
        int minusTwo = x.whole(-2);
        int minusThree = x.whole(-3);
        int[][] left = {{three, two}, {two, three}, {minusThree, two, three, minusTwo}, {three}};
        int[][] right = {{minusTwo, minusThree}, {minusThree, minusTwo}, {three, minusThree, two, minusTwo}, {minusThree}};
        for (int i = 0; i < 4; i++) {
            int game = Check.made(x, left[i], right[i]);
            formIs(x, "the best ones of order " + i, game, "{3|-3}");
            Check.same("one for Left", x.options(game, true), 1);
            Check.same("one for Right", x.options(game, false), 1);
        }
        int leftOnly = Check.made(x, Check.of(two, three), Check.of(minusTwo));
        formIs(x, "for Left the greatest one", leftOnly, "{3|-2}");
        int hot = Check.made(x, Check.of(three), Check.of(two));
        int less = Check.made(x, Check.of(hot, two), Check.of(minusThree));
        formIs(x, "{3|2} and 2 for Left are confused", less, "{2,{3|2}|-3}");
        int cold = Check.made(x, Check.of(hot, x.whole(1)), Check.of(minusThree));
        formIs(x, "1 is less than {3|2}", cold, "{{3|2}|-3}");
        int turned = x.turned(cold);
        formIs(x, "for Right the other way round", turned, "{3|{-2|-3}}");
    }

    /** "of equal ones all but one": however many there are, of either player. */
    private static void leftOutIfEqual() {
        Thermographica x = new Thermographica();
        int star = x.heap(1);
        int nought = x.whole(0);
        int empty = x.heap(0);
        int none = x.sum(star, star);
        int one = x.whole(1);
        int minus = x.sum(x.whole(-1), empty);
        int same = x.turned(one);
        int game = Check.made(x, Check.of(nought, empty, none, nought), Check.of(none, empty));
        formIs(x, "{0,0,0,0|0,0}", game, "*");
        Check.same("one for Left", x.options(game, true), 1);
        Check.same("one for Right", x.options(game, false), 1);
        int hot = Check.made(x, Check.of(one), Check.of(minus, same, minus));
        formIs(x, "{1|-1,-1,-1}", hot, "{1|-1}");
        Check.same("one for Right of three equal ones", x.options(hot, false), 1);
        int alike = x.turned(hot);
        int both = Check.made(x, Check.of(hot, alike), Check.of(x.whole(-2)));
        formIs(x, "equal hot ones", both, "{{1|-1}|-2}");
    }

    /** What is confused with the others stays, for each player. */
    private static void keptIfConfused() {
        Thermographica x = new Thermographica();
        int three = Shelf.hot(x, 3, -3);
        int two = Shelf.hot(x, 2, -2);
        int one = Shelf.hot(x, 1, -1);
        int nought = x.whole(0);
        int game = Check.made(x, Check.of(one, three, nought, two), Check.of(x.whole(-5)));
        formIs(x, "four for Left", game, "{0,{1|-1},{2|-2},{3|-3}|-5}");
        Check.same("four for Left", x.options(game, true), 4);
        Check.same("one for Right", x.options(game, false), 1);
        int turned = Check.made(x, Check.of(x.whole(5)), Check.of(two, one, nought, three));
        formIs(x, "four for Right", turned, "{5|0,{1|-1},{2|-2},{3|-3}}");
        Check.same("four for Right", x.options(turned, false), 4);
        Check.same("one for Left", x.options(turned, true), 1);
        Check.same("the one is the other one turned", x.compare(turned, x.turned(game)), '=');
    }

    /** "it is replaced by all of Left's options of b", of which there is none. */
    private static void answeredAndReplacedByNone() {
        Thermographica x = new Thermographica();
        int star = x.heap(1);
        int one = x.whole(1);
        int minus = x.whole(-1);
        formIs(x, "{*|}", Check.made(x, Check.of(star), Check.of()), "0");
        formIs(x, "{|*}", Check.made(x, Check.of(), Check.of(star)), "0");
        formIs(x, "{-1|1}", Check.made(x, Check.of(minus), Check.of(one)), "0");
        formIs(x, "{*|*}", Check.made(x, Check.of(star), Check.of(star)), "0");
        int nought = x.whole(0);
        formIs(x, "{*,0|0}, where none is answered", Check.made(x, Check.of(star, nought), Check.of(nought)), "{*,0|0}");
        int up = Check.made(x, Check.of(nought), Check.of(star));
        formIs(x, "{0|up}", Check.made(x, Check.of(nought), Check.of(up)), "{0|{0|*}}");
        int down = x.turned(up);
        formIs(x, "{down|up}", Check.made(x, Check.of(down), Check.of(up)), "0");
        formIs(x, "{up + *|1}", Check.made(x, Check.of(x.sum(up, star)), Check.of(one)), "0");
    }

    /** "it is replaced by all of Left's options of b", of which there is one. */
    private static void answeredAndReplacedByOne() {
        Thermographica x = new Thermographica();
        int up = Shelf.up(x);
        int nought = 0;
        int star = 1;
        int game = Check.made(x, Check.of(up), Check.of(up));
        formIs(x, "{up|up}", game, "{0|{0|*}}");
        formIs(x, "{up|down}", Check.made(x, Check.of(up), Check.of(x.turned(up))), "*");
        int three = x.whole(3);
        int hot = Check.made(x, Check.of(x.whole(6)), Check.of(three));
        int game2 = Check.made(x, Check.of(hot), Check.of(x.whole(6)));
        formIs(x, "{{6|3}|6}: 3 is its answer, and 2 Left's option there", game2, "3");
        Check.same("one option", x.options(game2, true), 1);
        formIs(x, "turned", x.turned(game2), "-3");
        int one = x.whole(1);
        int half = Check.made(x, Check.of(nought), Check.of(one));
        formIs(x, "{1/2|}", Check.made(x, Check.of(half), Check.of()), "1");
        formIs(x, "{|-1/2}", Check.made(x, Check.of(), Check.of(x.turned(half))), "-1");
        int threat = Check.made(x, Check.of(x.whole(6)), Check.of(star));
        formIs(x, "{0|{6|*}}: 6 has none for Right", Check.made(x, Check.of(nought), Check.of(threat)), "1");
    }

    /** "it is replaced by all of Left's options of b", of which there are several. */
    private static void answeredAndReplacedBySeveral() {
        Thermographica x = new Thermographica();
        int nought = x.heap(0);
        int star = x.heap(1);
        int two = x.heap(2);
        int three = x.heap(3);
        int game = Check.made(x, Check.of(nought, star, three), Check.of(nought, star, three));
        formIs(x, "{0,*,*3|0,*,*3}: *2 is the answer", game, "*2");
        int hot = Check.made(x, Check.of(x.whole(5)), Check.of(two));
        int replaced = Check.made(x, Check.of(hot), Check.of(nought));
        Check.same("*2 is less than the game", x.compare(two, replaced), '<');
        Check.same("Left's options are 0 and *", x.options(replaced, true), 2);
        formIs(x, "{{5|*2}|0}", replaced, "{*,0|0}");
        formIs(x, "turned", x.turned(replaced), "{0|*,0}");
        int more = Check.made(x, Check.of(x.heap(4), three), Check.of(two, three, nought, star));
        formIs(x, "{*4,*3|*2,*3,0,*}: all of Right's but 0 are answered by 0", more, "{*3,*4|0}");
        Check.same("Left's options", x.options(more, true), 2);
        Check.same("Right's option", x.options(more, false), 1);
    }

    /** "which is at most the game": also if it is equal to it. */
    private static void answeredIfEqual() {
        Thermographica x = new Thermographica();
        int nought = x.heap(0);
        int two = x.heap(2);
        int one = x.whole(1);
        int half = Check.made(x, Check.of(nought), Check.of(one));
        int hot = Check.made(x, Check.of(x.whole(4)), Check.of(half));
        int game = Check.made(x, Check.of(hot), Check.of(one));
        Check.same("the game is equal to the answer 1/2", x.compare(game, half), '=');
        formIs(x, "{{4|1/2}|1}", game, "1/2");
        int heap = Check.made(x, Check.of(nought, two), Check.of(nought, two));
        formIs(x, "{0,*2|0,*2} is equal to the answer *", heap, "*");
        int cold = Check.made(x, Check.of(x.whole(-3)), Check.of(nought));
        int colder = Check.made(x, Check.of(), Check.of(x.turned(hot)));
        formIs(x, "{|{-1/2|-4}}: -1/2 is not at least the game", colder, "-1");
        formIs(x, "{-3|0}: -2 is less than the game", cold, "-1");
    }

    /** An answer that is greater than the game, or confused with it, changes nothing. */
    private static void notAnsweredIfNotAtMost() {
        Thermographica x = new Thermographica();
        int nought = x.whole(0);
        int star = x.heap(1);
        int hot = Shelf.hot(x, 4, 1);
        formIs(x, "{{4|1}|0}: 1 is not at most the game", Check.made(x, Check.of(hot), Check.of(nought)), "{{4|1}|0}");
        formIs(x, "{{4|1}|1}: 1 is confused with the game", Check.made(x, Check.of(hot), Check.of(x.whole(1))), "{{4|1}|1}");
        formIs(x, "{{4|1}|2}: 1 is less than the game", Check.made(x, Check.of(hot), Check.of(x.whole(2))), "1");
        int turned = Shelf.hot(x, -1, -4);
        formIs(x, "{0|{-1|-4}}", Check.made(x, Check.of(nought), Check.of(turned)), "{0|{-1|-4}}");
        formIs(x, "{-1|{-1|-4}}", Check.made(x, Check.of(x.whole(-1)), Check.of(turned)), "{-1|{-1|-4}}");
        formIs(x, "{-2|{-1|-4}}", Check.made(x, Check.of(x.whole(-2)), Check.of(turned)), "-1");
        formIs(x, "{*|0}", Check.made(x, Check.of(star), Check.of(nought)), "{*|0}");
    }

    /** "All of this is done as long as it changes something": what comes in place of an option is answered, too. */
    private static void answeredAgainAndAgain() {
        Thermographica x = new Thermographica();
        x.whole(0);
        x.heap(1);
        int upStar = Check.made(x, Check.of(0, 1), Check.of(0));
        int twoUp = Check.made(x, Check.of(0), Check.of(upStar));
        int game = Check.made(x, Check.of(twoUp), Check.of(twoUp));
        formIs(x, "{up + up|up + up}: up + * first, and then *", game, "{0|{0|{*,0|0}}}");
        Check.same("it is up + up + up + *", x.compareByPlay(game, x.sum(twoUp, upStar)), '=');
        formIs(x, "turned", x.turned(game), "{{{0|*,0}|0}|0}");
        int three = x.whole(3);
        int hot = Check.made(x, Check.of(x.whole(6)), Check.of(Check.made(x, Check.of(x.heap(2)), Check.of(0))));
        int twice = Check.made(x, Check.of(hot), Check.of(three));
        formIs(x, "{{6|{*2|0}}|3}: {*2|0} first, and then 0 of *2", twice, "0");
        Check.same("no option is left", x.options(twice, true) + x.options(twice, false), 0);
        formIs(x, "turned", x.turned(twice), "0");
    }

    /** Both happen: what comes in place of an option makes others worse, or is worse itself. */
    private static void bothAgainAndAgain() {
        Thermographica x = new Thermographica();
        int nought = x.whole(0);
        int six = x.whole(6);
        int warm = Shelf.hot(x, 2, 1);
        int hot = Check.made(x, Check.of(six), Check.of(warm));
        int minus = x.whole(-6);
        formIs(x, "{0,{6|{2|1}}|6}: 2 in place makes 0 worse", Check.made(x, Check.of(nought, hot), Check.of(six)), "3");
        formIs(x, "{0,{6|{2|1}}|-6}: nothing is answered", Check.made(x, Check.of(nought, hot), Check.of(minus)),
                "{{6|{2|1}}|-6}");
        int three = x.whole(3);
        formIs(x, "{3,{6|{2|1}}|6}", Check.made(x, Check.of(three, hot), Check.of(six)), "4");
        int four = x.whole(4);
        int warmer = Check.made(x, Check.of(four), Check.of(nought));
        int game = Check.made(x, Check.of(warmer, hot, nought), Check.of(six));
        formIs(x, "{{4|0},{6|{2|1}},0|6}: both are answered at once", game, "3");
        formIs(x, "turned", x.turned(game), "-3");
        int wide = Check.made(x, Check.of(hot, three), Check.of(warm));
        formIs(x, "{{6|{2|1}},3|{2|1}}", wide, "{3,{6|{2|1}}|{2|1}}");
        Check.same("by play too", x.isSound(), true);
    }

    /** "Equal games have the same form then": made in different ways, all that comes of the form is the same. */
    private static void equalGames() {
        Thermographica x = new Thermographica();
        int nought = x.whole(0);
        int one = x.whole(1);
        int two = x.whole(2);
        int star = x.heap(1);
        int up = Check.made(x, Check.of(nought), Check.of(star));
        int down = x.turned(up);
        alike(x, "0", nought, x.heap(0), x.make(), x.sum(star, star), x.sum(up, down), x.turned(nought));
        alike(x, "1", one, Check.made(x, Check.of(nought), Check.of(two)), x.sum(two, x.whole(-1)), x.turned(x.turned(one)));
        alike(x, "up", up, x.turned(down), x.sum(up, nought));
        Thermographica y = new Thermographica();
        int heap = y.heap(3);
        int pair = y.sum(y.heap(1), y.heap(2));
        int told = Check.made(y, Check.of(1, 2, y.heap(0)), Check.of(2, 4, 1, 1));
        alike(y, "*3", heap, pair, told, y.turned(pair));
        int hot = Shelf.hot(y, 3, -1);
        int shifted = y.sum(Shelf.hot(y, 2, -2), y.whole(1));
        alike(y, "{3|-1}", hot, shifted, y.turned(y.turned(hot)));
        Check.same("their texts", Check.text(y, shifted), "{3|-1}");
    }

    private static void alike(Thermographica x, String what, int... games) {
        String text = Check.text(x, games[0]);
        String value = Shelf.valueOf(x, games[0]);
        for (int i = 1; i < games.length; i++) {
            Check.same(what + " again, " + i, Check.text(x, games[i]), text);
            Check.same(what + " again, all of it, " + i, Shelf.valueOf(x, games[i]), value);
            Check.same(what + " again, compared, " + i, x.compare(games[0], games[i]), '=');
            Check.same(what + " again, by play, " + i, x.compareByPlay(games[i], games[i - 1]), '=');
        }
    }

    /** "0 without options, and otherwise 1 more than the greatest birthday of its options": from 0 to 12. */
    private static void birthdays() {
        Thermographica x = new Thermographica();
        for (int n = -6; n <= 6; n++) {
            Check.same("birthday of " + n, x.birthday(x.whole(n)), Math.abs(n));
        }
        for (int n = 0; n <= 6; n++) {
            Check.same("birthday of heap " + n, x.birthday(x.heap(n)), n);
        }
        Thermographica y = new Thermographica();
        Check.same("birthday of 12", y.birthday(Shelf.chain(y, 12)), 12);
        int up = Shelf.up(y);
        Check.same("birthday of up", y.birthday(up), 2);
        int hot = Shelf.hot(y, 4, -6);
        Check.same("the greatest of Right's", y.birthday(hot), 7);
        Check.same("the greatest of Left's", y.birthday(y.turned(hot)), 7);
        int deep = y.sum(up, y.turned(up));
        Check.same("of the form, not of the game", y.birthday(deep), 0);
        Check.same("which is deeper", y.depth(deep), 4);
        int answered = Check.made(y, Check.of(hot), Check.of());
        Check.same("{{4|-6}|}", y.birthday(answered), 0);
    }

    /** "0 without options; 1 more ...; 1 less ...; and otherwise the mean of both". */
    private static void numbersByTheirOptions() {
        Thermographica x = new Thermographica();
        int nought = x.make();
        Check.same("without options", x.number(nought), 0.0);
        int one = Check.made(x, Check.of(nought), Check.of());
        Check.same("1 more", x.number(one), 1.0);
        int minus = Check.made(x, Check.of(), Check.of(nought));
        Check.same("1 less", x.number(minus), -1.0);
        int half = Check.made(x, Check.of(nought), Check.of(one));
        Check.same("the mean", x.number(half), 0.5);
        int quarters = Check.made(x, Check.of(half), Check.of(one));
        Check.same("the mean of 1/2 and 1", x.number(quarters), 0.75);
        Check.same("the mean of -1 and 0", x.number(x.turned(half)), -0.5);
        int twelve = Check.made(x, Check.of(quarters), Check.of(one));
        Check.same("the mean of 3/4 and 1", x.number(twelve), 0.875);
        Check.same("a sum of both", x.number(x.sum(twelve, quarters)), 1.625);
        int three = x.whole(3);
        int between = Check.made(x, Check.of(x.whole(2)), Check.of(three));
        Check.same("5/2", x.number(between), 2.5);
        Check.same("{5/2|3}", x.number(Check.made(x, Check.of(between), Check.of(three))), 2.75);
        Check.same("{-1|3} has options that are answered at once", x.number(Check.made(x, Check.of(minus), Check.of(three))), 0.0);
        Check.same("{0|3} too", x.number(Check.made(x, Check.of(nought), Check.of(three))), 1.0);
        Check.same("{3/4|3} too", x.number(Check.made(x, Check.of(quarters), Check.of(three))), 1.0);
        Thermographica y = new Thermographica();
        Check.same("the smallest number", y.number(Shelf.fraction(y, 11)), 1.0 / 2048);
        Thermographica z = new Thermographica();
        int twelveIndeed = Shelf.chain(z, 12);
        Check.same("the greatest number", z.number(twelveIndeed), 12.0);
        Check.same("the least number", z.number(z.turned(twelveIndeed)), -12.0);
    }

    /** "a number if each of its options is a number, and each option for Left is less than each one for Right". */
    private static void betweenNumbersButNone() {
        Thermographica x = new Thermographica();
        int nought = x.whole(0);
        int one = x.whole(1);
        int small = Shelf.fraction(x, 3);
        int same = Check.made(x, Check.of(small), Check.of(small));
        Check.none("{1/8|1/8}: equal options", () -> x.number(same));
        int hot = Check.made(x, Check.of(one), Check.of(small));
        Check.none("{1|1/8}: Left's is greater", () -> x.number(hot));
        int less = Check.made(x, Check.of(small), Check.of(one));
        Check.same("{1/8|1}: Left's is less", x.number(less), 0.5);
        int up = Shelf.up(x);
        int between = Check.made(x, Check.of(nought), Check.of(up));
        Check.same("0 is less than up", x.compare(nought, up), '<');
        Check.none("but {0|up} is no number, as up is none", () -> x.number(between));
        Check.same("a star is confused with 0, but {*|1} is a number",
                x.number(Check.made(x, Check.of(x.heap(1)), Check.of(one))), 0.0);
        Check.none("nor is {1/8 + *|1}", () -> x.number(x.sum(small, x.heap(1))));
    }

    /** "A form is a heap of n if both players have just the forms of the heaps 0 to n less 1": 0 and up to 7. */
    private static void heapsOfForms() {
        Thermographica x = new Thermographica();
        for (int n = 0; n <= 6; n++) {
            x.heap(n);
            Check.same("heap of " + n, x.heapOf(n), n);
            Check.same("kind of " + n, x.kindOf(n), n == 0 ? 'n' : '*');
        }
        Check.same("the number 0 is the heap of 0", x.heapOf(x.whole(0)), 0);
        int seven = x.sum(4, 3);
        Check.same("*4 + *3", x.heapOf(seven), 7);
        Check.same("its kind", x.kindOf(seven), '*');
        Check.same("its options", x.options(seven, true) * 10 + x.options(seven, false), 77);
        Check.same("*2 + *3", x.heapOf(x.sum(2, 3)), 1);
        Check.same("*5 + *5", x.heapOf(x.sum(5, 5)), 0);
        Check.same("*6 + *3", x.heapOf(x.sum(6, 3)), 5);
        Check.same("{0,*,*2,*3|0,*,*2,*3}", x.heapOf(Check.made(x, Check.of(0, 1, 2, 3), Check.of(3, 2, 1, 0))), 4);
        Check.same("{0,*,*2,*4|0,*,*2,*6}", x.heapOf(Check.made(x, Check.of(0, 1, 2, 4), Check.of(0, 1, 2, 6))), 3);
        Check.same("{*,*2|*3}", x.heapOf(Check.made(x, Check.of(1, 2), Check.of(3))), 0);
    }

    /** Forms that are no heap: a number, one that a player lacks, one too many for a player. */
    private static void noHeaps() {
        Thermographica x = new Thermographica();
        int nought = x.heap(0);
        int star = x.heap(1);
        int two = x.heap(2);
        int[] none = {x.whole(1), x.whole(-1), Check.made(x, Check.of(nought, star), Check.of(nought)),
            Check.made(x, Check.of(nought), Check.of(nought, star)), Check.made(x, Check.of(nought), Check.of(star)),
            Check.made(x, Check.of(nought, star, two), Check.of(nought, star)),
            Check.made(x, Check.of(nought, two), Check.of(nought, star)), x.sum(star, x.whole(1))};
        String[] texts = {"1", "-1", "{*,0|0}", "{0|*,0}", "{0|*}", "{*,0,*2|*,0}", "{0,*2|*,0}", "{1|1}"};
        for (int i = 0; i < none.length; i++) {
            int game = none[i];
            Check.same("the form of " + texts[i], Check.text(x, game), texts[i]);
            Check.none("heapOf of " + texts[i], () -> x.heapOf(game));
            Check.same("kindOf is not that of a heap", x.kindOf(game) == '*', false);
        }
    }

    /** "the number itself, if it is one; otherwise the greatest right stop of its options for Left", and likewise. */
    private static void stopsOfForms() {
        Thermographica x = new Thermographica();
        int nought = x.whole(0);
        int one = x.whole(1);
        int hot = Shelf.hot(x, 5, 2);
        stops(x, "1", one, 1, 1);
        stops(x, "{5|2}", hot, 5, 2);
        int game = Check.made(x, Check.of(hot, one), Check.of(nought));
        stops(x, "{1,{5|2}|0}: the greatest right stop", game, 2, 0);
        int three = x.whole(3);
        stops(x, "{3,{5|2}|0}", Check.made(x, Check.of(hot, three), Check.of(nought)), 3, 0);
        int cold = x.turned(hot);
        stops(x, "{0|-1,{-2|-5}}: the least left stop", Check.made(x, Check.of(nought), Check.of(cold, x.whole(-1))), 0, -2);
        stops(x, "{0|-3,{-2|-5}}", Check.made(x, Check.of(nought), Check.of(cold, x.whole(-3))), 0, -3);
        stops(x, "{{5|2}|{-2|-5}}", Check.made(x, Check.of(hot), Check.of(cold)), 2, -2);
        int small = Shelf.fraction(x, 3);
        stops(x, "{1/8|0}", Check.made(x, Check.of(small), Check.of(nought)), 0.125, 0);
        stops(x, "-1/8", x.turned(small), -0.125, -0.125);
    }

    private static void stops(Thermographica x, String what, int game, double left, double right) {
        Check.same("left stop of " + what, x.stop(game, true), left);
        Check.same("right stop of " + what, x.stop(game, false), right);
    }

    /** kindOf: each kind beside those that come ahead of it and behind it. */
    private static void kinds() {
        Thermographica x = new Thermographica();
        int up = Shelf.up(x);
        int nought = 0;
        int star = 1;
        int small = Shelf.fraction(x, 4);
        int minus = x.turned(small);
        Check.same("0, though its stops are 0 and it is a heap", x.kindOf(nought), 'n');
        Check.same("a small number", x.kindOf(small), 'n');
        Check.same("*, though its stops are 0", x.kindOf(star), '*');
        Check.same("up", x.kindOf(up), 'i');
        Check.same("up + *", x.kindOf(x.sum(up, star)), 'i');
        Check.same("{1/16|0}: one stop is 0", x.kindOf(Check.made(x, Check.of(small), Check.of(nought))), 'h');
        Check.same("{0|-1/16}: the other one is 0", x.kindOf(Check.made(x, Check.of(nought), Check.of(minus))), 'h');
        Check.same("{1/16|-1/16}: none is 0, but their sum", x.kindOf(Check.made(x, Check.of(small), Check.of(minus))), 'h');
        Check.same("{1/16|1/16}: both are the same, but not 0", x.kindOf(Check.made(x, Check.of(small), Check.of(small))), 'o');
        Check.same("1/16 + up", x.kindOf(x.sum(small, up)), 'o');
        Check.same("-1/16 + *", x.kindOf(x.sum(minus, star)), 'o');
        int hot = Shelf.hot(x, 2, 0);
        int cold = x.turned(hot);
        Check.same("{0|{0|-2}}: a hot option, but stops of 0", x.kindOf(Check.made(x, Check.of(nought), Check.of(cold))), 'i');
        Check.same("{{2|0}|{0|-2}}: hot options, but 0", x.kindOf(Check.made(x, Check.of(hot), Check.of(cold))), 'n');
        Check.same("{2|0}", x.kindOf(hot), 'h');
    }

    /** outcome: "whoever begins", beside 0. */
    private static void outcomes() {
        Thermographica x = new Thermographica();
        int up = Shelf.up(x);
        int small = Shelf.fraction(x, 4);
        int minus = x.turned(small);
        outcome(x, "0", 0, 'P');
        outcome(x, "*", 1, 'N');
        outcome(x, "up", up, 'L');
        outcome(x, "down", x.turned(up), 'R');
        outcome(x, "1/16", small, 'L');
        outcome(x, "-1/16", minus, 'R');
        outcome(x, "1/16 - 1/16", x.sum(small, minus), 'P');
        outcome(x, "{1/16|0}", Check.made(x, Check.of(small), Check.of(0)), 'N');
        outcome(x, "{1/16|1/16}", Check.made(x, Check.of(small), Check.of(small)), 'L');
        outcome(x, "{0|-1/16}", Check.made(x, Check.of(0), Check.of(minus)), 'N');
        outcome(x, "{1/16|-1/16}", Check.made(x, Check.of(small), Check.of(minus)), 'N');
        outcome(x, "{-1/16|-1/16}", Check.made(x, Check.of(minus), Check.of(minus)), 'R');
    }

    /** By the comparison with 0 too: 'L' is greater, 'R' less, 'P' equal, 'N' confused. */
    private static void outcome(Thermographica x, String what, int game, char due) {
        Check.same("outcome of " + what, x.outcome(game), due);
        char order = due == 'L' ? '>' : due == 'R' ? '<' : due == 'P' ? '=' : '|';
        Check.same(what + " and 0", x.compare(game, 0), order);
    }

    /** options: "how many options the form of a game has for a player", not the game itself. */
    private static void optionsOfForms() {
        Thermographica x = new Thermographica();
        for (int n = 0; n <= 6; n++) {
            x.heap(n);
            Check.same("Left's options of heap " + n, x.options(n, true), n);
            Check.same("Right's options of heap " + n, x.options(n, false), n);
        }
        int three = x.whole(3);
        Check.same("Left's option of 3", x.options(three, true), 1);
        Check.same("Right's options of 3", x.options(three, false), 0);
        int game = Check.made(x, Check.of(0, 1), Check.of(0));
        Check.same("Left's options of {*,0|0}", x.options(game, true), 2);
        Check.same("Right's options of {*,0|0}", x.options(game, false), 1);
        int sum = x.sum(3, 3);
        Check.same("of *3 + *3, which has moves", x.begin(sum, true), 6);
        Check.same("its form has no options", x.options(sum, true), 0);
        Check.same("for none", x.options(sum, false), 0);
    }
}
