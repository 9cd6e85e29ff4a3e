import java.util.NoSuchElementException;

/** A solver of games in which two players, Left and Right, move in turns, and who cannot move has lost. */
public final class Thermographica {
    private static final int MOST_GAMES = 24;
    private static final int MOST_TOLD = 4;
    private static final int MOST_POSITIONS = 40;
    private static final int MOST_DEPTH = 12;
    private static final int MOST_WHOLE = 6;
    private static final int MOST_HEAP = 6;
    private static final int MOST_TEXT = 200;
    private static final int MOST_SIXTEENTHS = 400;

    /** No game brings more than 40 positions that were not there before, and no position more than one form. */
    private static final int MOST_KEPT = MOST_GAMES * MOST_POSITIONS;

    /**
     * Numbers and temperatures are counted in parts of this: with 12 moves at most, a number has a denominator of
     * 2048 at most, and each step of cooling halves at most once more, so that all of them are whole here.
     */
    private static final int UNIT = 1 << 14;

    /** Above every temperature: no number is beyond 12, so that no two walls are more than 24 apart. */
    private static final int HOTTEST = 16 * UNIT;

    private final Game[] games;
    private int gameCount;
    private final Told told;
    private final Catalogue catalogue;
    private final Duel duel;
    private final Play play;
    private String written;
    private long moveCount;

    public Thermographica() {
        games = new Game[MOST_GAMES];
        told = new Told();
        catalogue = new Catalogue();
        duel = new Duel();
        play = new Play();
        written = "";
    }

    // ---- games

    public int tellOption(boolean isLeft, int game) throws IndexOutOfBoundsException, IllegalStateException {
        Game option = gameAt(game);
        if (told.count(isLeft) >= MOST_TOLD) {
            throw new IllegalStateException("4 options are told for this player");
        }
        return told.add(isLeft, option.top);
    }

    public int clearOptions() {
        return told.clear();
    }

    public int make() throws UnsupportedOperationException, IllegalStateException {
        Position[] left = told.copy(true);
        Position[] right = told.copy(false);
        requireSize(1 + catalogue.countUnder(left, right), Position.longestOver(left, right));
        requireRoom();
        told.clear();
        return enrol(catalogue.keep(left, right));
    }

    public int whole(int n) throws IllegalArgumentException, IllegalStateException {
        if (n < -MOST_WHOLE || n > MOST_WHOLE) {
            throw new IllegalArgumentException("a whole number is from -6 to 6");
        }
        requireRoom();
        return enrol(catalogue.wholeNumber(n));
    }

    public int heap(int n) throws IllegalArgumentException, IllegalStateException {
        if (n < 0 || n > MOST_HEAP) {
            throw new IllegalArgumentException("a heap is from 0 to 6");
        }
        requireRoom();
        return enrol(catalogue.heapOfSize(n));
    }

    public int sum(int first, int second)
            throws IndexOutOfBoundsException, UnsupportedOperationException, IllegalStateException {
        Game one = gameAt(first);
        Game other = gameAt(second);
        requireSize(one.within.length * other.within.length, one.top.longest + other.top.longest);
        requireRoom();
        return enrol(catalogue.sumOf(one.top, other.top));
    }

    public int turned(int game) throws IndexOutOfBoundsException, IllegalStateException {
        Game found = gameAt(game);
        requireRoom();
        return enrol(catalogue.turnedOf(found.top));
    }

    public int positions(int game) throws IndexOutOfBoundsException {
        return gameAt(game).within.length;
    }

    public int depth(int game) throws IndexOutOfBoundsException {
        return gameAt(game).top.longest;
    }

    // ---- values

    public char compare(int first, int second) throws IndexOutOfBoundsException {
        return signByForms(gameAt(first), gameAt(second));
    }

    public char compareByPlay(int first, int second) throws IndexOutOfBoundsException {
        return duel.verdict(gameAt(first), gameAt(second));
    }

    public char outcome(int game) throws IndexOutOfBoundsException {
        Position top = gameAt(game).top;
        return winner(top.leftWins, top.rightWins);
    }

    public char kindOf(int game) throws IndexOutOfBoundsException {
        Form form = formAt(game);
        if (form.isNumber) {
            return 'n';
        }
        if (form.heapSize > 0) {
            return '*';
        }
        if (form.leftStop == 0 && form.rightStop == 0) {
            return 'i';
        }
        return form.leftStop > form.rightStop ? 'h' : 'o';
    }

    public double number(int game) throws IndexOutOfBoundsException, NoSuchElementException {
        Form form = formAt(game);
        if (!form.isNumber) {
            throw new NoSuchElementException("the game is no number");
        }
        return inOnes(form.value);
    }

    public int heapOf(int game) throws IndexOutOfBoundsException, NoSuchElementException {
        Form form = formAt(game);
        if (form.heapSize < 0) {
            throw new NoSuchElementException("the game is no heap");
        }
        return form.heapSize;
    }

    public int birthday(int game) throws IndexOutOfBoundsException {
        return formAt(game).birthday;
    }

    public int options(int game, boolean isLeft) throws IndexOutOfBoundsException {
        return formAt(game).optionsFor(isLeft).length;
    }

    public int write(int game) throws IndexOutOfBoundsException, UnsupportedOperationException {
        String text = Scribe.textOf(formAt(game));
        if (text == null) {
            throw new UnsupportedOperationException("the text would be longer than 200");
        }
        written = text;
        return text.length();
    }

    public char charAt(int index) throws IndexOutOfBoundsException {
        if (index < 0 || index >= written.length()) {
            throw new IndexOutOfBoundsException("no such character");
        }
        return written.charAt(index);
    }

    // ---- heat

    public double stop(int game, boolean isLeft) throws IndexOutOfBoundsException {
        Form form = formAt(game);
        return inOnes(isLeft ? form.leftStop : form.rightStop);
    }

    public double wall(int game, boolean isLeft, int sixteenths)
            throws IndexOutOfBoundsException, IllegalArgumentException {
        Form form = formAt(game);
        if (sixteenths < 0 || sixteenths > MOST_SIXTEENTHS) {
            throw new IllegalArgumentException("t is from 0 to 400 sixteenths");
        }
        catalogue.forms.coolThrough(form);
        return inOnes(Cooling.wallAt(form, isLeft, sixteenths * (UNIT / 16)));
    }

    public double temperature(int game) throws IndexOutOfBoundsException, NoSuchElementException {
        Form form = formAt(game);
        if (form.isNumber) {
            throw new NoSuchElementException("a number has no temperature");
        }
        catalogue.forms.coolThrough(form);
        return inOnes(form.heat.temperature);
    }

    public double mean(int game) throws IndexOutOfBoundsException {
        Form form = formAt(game);
        catalogue.forms.coolThrough(form);
        return inOnes(form.heat.mean);
    }

    // ---- playing

    public int begin(int game, boolean leftBegins) throws IndexOutOfBoundsException {
        Position top = gameAt(game).top;
        play.start(top, leftBegins);
        return top.optionsFor(leftBegins).length;
    }

    public int move(int move) throws IllegalStateException, IndexOutOfBoundsException {
        Position[] choices = positionInPlay().optionsFor(play.isLeftsTurn());
        if (move < 0 || move >= choices.length) {
            throw new IndexOutOfBoundsException("no such move");
        }
        Position next = choices[move];
        play.goOn(move, next);
        moveCount++;
        return next.optionsFor(play.isLeftsTurn()).length;
    }

    public int takeBack() throws NoSuchElementException {
        if (play.made == 0) {
            throw new NoSuchElementException("no move was made");
        }
        play.made--;
        return play.made;
    }

    public boolean canWin() throws IllegalStateException {
        return positionInPlay().winsMoving(play.isLeftsTurn());
    }

    public int winningMove() throws IllegalStateException, NoSuchElementException {
        boolean isLeft = play.isLeftsTurn();
        Position[] choices = positionInPlay().optionsFor(isLeft);
        for (int i = 0; i < choices.length; i++) {
            if (!choices[i].winsMoving(!isLeft)) {
                return i;
            }
        }
        throw new NoSuchElementException("no move wins");
    }

    public int mistake() throws IllegalStateException, NoSuchElementException {
        positionInPlay();
        int place = play.firstMistake();
        if (place < 0) {
            throw new NoSuchElementException("no move threw a win away");
        }
        return place;
    }

    // ---- figures

    public long moves() {
        return moveCount;
    }

    public float numberShare() throws ArithmeticException {
        if (gameCount == 0) {
            throw new ArithmeticException("there are no games");
        }
        int numbers = 0;
        for (int i = 0; i < gameCount; i++) {
            if (formAt(i).isNumber) {
                numbers++;
            }
        }
        return (float) numbers / (float) gameCount;
    }

    public boolean isSound() {
        for (int i = 0; i < gameCount; i++) {
            Game game = gameAt(i);
            Position top = game.top;
            if (winner(top.leftWins, top.rightWins) != winner(top.form.leftWins, top.form.rightWins)) {
                return false;
            }
            if (i + 1 < gameCount && signByForms(game, gameAt(i + 1)) != duel.verdict(game, gameAt(i + 1))) {
                return false;
            }
        }
        return play.comesByMoves();
    }

    // ---- helpers of the face

    private Game gameAt(int number) {
        Game game = number < 0 || number >= gameCount || number >= games.length ? null : games[number];
        if (game == null) {
            throw new IndexOutOfBoundsException("no such game");
        }
        return game;
    }

    private Form formAt(int number) {
        return gameAt(number).top.form;
    }

    private static void requireSize(int positions, int longest) {
        if (positions > MOST_POSITIONS || longest > MOST_DEPTH) {
            throw new UnsupportedOperationException("a game has at most 40 positions, and 12 moves in a row");
        }
    }

    private void requireRoom() {
        if (gameCount >= games.length) {
            throw new IllegalStateException("there are 24 games");
        }
    }

    private int enrol(Position top) {
        int number = gameCount;
        if (number < games.length) {
            games[number] = new Game(number, top, catalogue.allUnder(top));
            gameCount++;
        }
        return number;
    }

    private Position positionInPlay() {
        Position now = play.now();
        if (now == null) {
            throw new IllegalStateException("there is no play");
        }
        return now;
    }

    private static char signByForms(Game first, Game second) {
        boolean isAtMost = FormBook.isAtMost(first.top.form, second.top.form);
        boolean isAtLeast = FormBook.isAtMost(second.top.form, first.top.form);
        if (isAtMost) {
            return isAtLeast ? '=' : '<';
        }
        return isAtLeast ? '>' : '|';
    }

    private static char winner(boolean leftWinsMoving, boolean rightWinsMoving) {
        if (leftWinsMoving) {
            return rightWinsMoving ? 'N' : 'L';
        }
        return rightWinsMoving ? 'R' : 'P';
    }

    private static double inOnes(int units) {
        return (double) units / (double) UNIT;
    }

    /** A game that has a number: its first position, and all positions, each one behind its options. */
    private static final class Game {
        final int number;
        final Position top;
        final Position[] within;

        Game(int number, Position top, Position[] within) {
            this.number = number;
            this.top = top;
            this.within = within;
        }
    }

    /** The options that are told for the game to be made. */
    private static final class Told {
        final Position[] left = new Position[MOST_TOLD];
        final Position[] right = new Position[MOST_TOLD];
        int leftCount;
        int rightCount;

        int count(boolean isLeft) {
            return isLeft ? leftCount : rightCount;
        }

        int add(boolean isLeft, Position option) {
            Position[] row = isLeft ? left : right;
            int at = count(isLeft);
            if (at < row.length) {
                row[at] = option;
                leftCount += isLeft ? 1 : 0;
                rightCount += isLeft ? 0 : 1;
            }
            return count(isLeft);
        }

        Position[] copy(boolean isLeft) {
            Position[] row = isLeft ? left : right;
            Position[] copied = new Position[Math.min(count(isLeft), row.length)];
            for (int i = 0; i < copied.length && i < row.length; i++) {
                copied[i] = row[i];
            }
            return copied;
        }

        int clear() {
            int all = leftCount + rightCount;
            leftCount = 0;
            rightCount = 0;
            return all;
        }
    }

    /** A position, of which there is one for all that are made of the same things in the same way. */
    private static final class Position {
        final int index;
        final Position[] left;
        final Position[] right;
        final int longest;
        /** Whether Left wins if Left is the one to move. */
        final boolean leftWins;
        final boolean rightWins;
        final Form form;
        Position turned;
        /** The sums that have this one first, a chain by their nextSum. */
        Position sums;
        Position second;
        Position nextSum;

        Position(int index, Position[] left, Position[] right, Form form) {
            this.index = index;
            this.left = left;
            this.right = right;
            this.form = form;
            longest = longestOver(left, right);
            leftWins = hasLoser(left, false);
            rightWins = hasLoser(right, true);
        }

        Position[] optionsFor(boolean isLeft) {
            return isLeft ? left : right;
        }

        boolean winsMoving(boolean isLeft) {
            return isLeft ? leftWins : rightWins;
        }

        static int longestOver(Position[] left, Position[] right) {
            int longest = 0;
            for (Position option : left) {
                longest = Math.max(longest, option.longest + 1);
            }
            for (Position option : right) {
                longest = Math.max(longest, option.longest + 1);
            }
            return longest;
        }

        private static boolean hasLoser(Position[] choices, boolean isLeftNext) {
            for (Position choice : choices) {
                if (!choice.winsMoving(isLeftNext)) {
                    return true;
                }
            }
            return false;
        }
    }

    /** All positions, each kept behind its options, so that a lower index is never a later position. */
    private static final class Catalogue {
        final FormBook forms = new FormBook();
        private final Position[] kept = new Position[MOST_KEPT];
        private int count;
        private final boolean[] marked = new boolean[MOST_KEPT];
        private final Position[] wholes = new Position[2 * MOST_WHOLE + 1];
        private final Position[] heaps = new Position[MOST_HEAP + 1];

        Position keep(Position[] left, Position[] right) {
            Position position = new Position(count, left, right, forms.formOver(left, right));
            if (count < kept.length) {
                kept[count] = position;
                count++;
            }
            return position;
        }

        Position wholeNumber(int n) {
            Position last = keptWhole(0, new Position[0], new Position[0]);
            for (int i = 1; i <= n; i++) {
                last = keptWhole(i, new Position[] {last}, new Position[0]);
            }
            for (int i = -1; i >= n; i--) {
                last = keptWhole(i, new Position[0], new Position[] {last});
            }
            return last;
        }

        private Position keptWhole(int n, Position[] left, Position[] right) {
            int place = n + MOST_WHOLE;
            if (place < 0 || place >= wholes.length) {
                return keep(left, right);
            }
            if (wholes[place] == null) {
                wholes[place] = keep(left, right);
            }
            return wholes[place];
        }

        Position heapOfSize(int n) {
            Position last = keptHeap(0);
            for (int i = 1; i <= n; i++) {
                last = keptHeap(i);
            }
            return last;
        }

        /** Needs all smaller heaps to be kept. */
        private Position keptHeap(int n) {
            if (n >= 0 && n < heaps.length && heaps[n] != null) {
                return heaps[n];
            }
            Position[] smaller = new Position[Math.max(0, Math.min(n, heaps.length))];
            for (int i = 0; i < smaller.length && i < heaps.length; i++) {
                smaller[i] = heaps[i];
            }
            Position made = keep(smaller, smaller);
            if (n >= 0 && n < heaps.length) {
                heaps[n] = made;
            }
            return made;
        }

        /** Goes as deep as the two are together, which is 12 at most. */
        private Position sumOf(Position first, Position second) {
            for (Position known = first.sums; known != null; known = known.nextSum) {
                if (known.second == second) {
                    return known;
                }
            }
            Position[] left = optionsOfSum(first, second, true);
            Position[] right = optionsOfSum(first, second, false);
            Position sum = keep(left, right);
            sum.second = second;
            sum.nextSum = first.sums;
            first.sums = sum;
            return sum;
        }

        private Position[] optionsOfSum(Position first, Position second, boolean isLeft) {
            Position[] ofFirst = first.optionsFor(isLeft);
            Position[] ofSecond = second.optionsFor(isLeft);
            Position[] all = new Position[ofFirst.length + ofSecond.length];
            for (int i = 0; i < ofFirst.length && i < all.length; i++) {
                all[i] = sumOf(ofFirst[i], second);
            }
            for (int i = 0; i < ofSecond.length && i + ofFirst.length < all.length; i++) {
                all[i + ofFirst.length] = sumOf(first, ofSecond[i]);
            }
            return all;
        }

        /** Goes as deep as the position is, which is 12 at most. */
        private Position turnedOf(Position position) {
            if (position.turned == null) {
                Position[] left = allTurned(position.right);
                Position[] right = allTurned(position.left);
                position.turned = keep(left, right);
            }
            return position.turned;
        }

        private Position[] allTurned(Position[] row) {
            Position[] turned = new Position[row.length];
            for (int i = 0; i < row.length && i < turned.length; i++) {
                turned[i] = turnedOf(row[i]);
            }
            return turned;
        }

        int countUnder(Position[] left, Position[] right) {
            unmark();
            markAll(left);
            markAll(right);
            return spread();
        }

        Position[] allUnder(Position top) {
            unmark();
            mark(top);
            Position[] all = new Position[Math.max(0, spread())];
            int found = 0;
            for (int i = 0; i < count && i < kept.length && found < all.length; i++) {
                if (isMarked(i)) {
                    all[found] = kept[i];
                    found++;
                }
            }
            return all;
        }

        private void unmark() {
            for (int i = 0; i < marked.length; i++) {
                marked[i] = false;
            }
        }

        private void mark(Position position) {
            if (position.index >= 0 && position.index < marked.length) {
                marked[position.index] = true;
            }
        }

        private void markAll(Position[] row) {
            for (Position position : row) {
                mark(position);
            }
        }

        private boolean isMarked(int index) {
            return index >= 0 && index < marked.length && marked[index];
        }

        /** Marks all that comes of the marked ones by options, and counts it, the marked ones included. */
        private int spread() {
            int found = 0;
            for (int i = Math.min(count, kept.length) - 1; i >= 0; i--) {
                Position position = kept[i];
                if (position != null && isMarked(i)) {
                    found++;
                    markAll(position.left);
                    markAll(position.right);
                }
            }
            return found;
        }
    }

    /** A form, of which there is one for all positions that are equal. */
    private static final class Form {
        final int index;
        Form[] left;
        Form[] right;
        /** For each form with a lower index what is known of the order of the two, in bits. */
        final byte[] order;
        int birthday;
        boolean isNumber;
        int value;
        /** The number of the heap that the form is, -1 if it is none. */
        int heapSize;
        int leftStop;
        int rightStop;
        /** Whether Left wins if Left is the one to move. */
        boolean leftWins;
        boolean rightWins;
        final Heat heat;
        String text;
        boolean isTextTried;

        Form(int index, Form[] left, Form[] right) {
            this.index = index;
            this.left = left;
            this.right = right;
            order = new byte[Math.max(0, index)];
            heat = new Heat();
        }

        Form[] optionsFor(boolean isLeft) {
            return isLeft ? left : right;
        }

        boolean winsMoving(boolean isLeft) {
            return isLeft ? leftWins : rightWins;
        }

        /** Tells what the form is, from its options, of which all this is told already. */
        void settle() {
            birthday = Math.max(nextBirthday(left), nextBirthday(right));
            settleValue();
            heapSize = isHeap(left.length) ? left.length : -1;
            leftWins = hasLoser(left, false);
            rightWins = hasLoser(right, true);
        }

        private static int nextBirthday(Form[] row) {
            int next = 0;
            for (Form option : row) {
                next = Math.max(next, option.birthday + 1);
            }
            return next;
        }

        /** The stops of numbers are the numbers: so the outer ones of the options tell of both. */
        private void settleValue() {
            boolean hasLeft = left.length > 0;
            boolean hasRight = right.length > 0;
            int greatest = -HOTTEST;
            int least = HOTTEST;
            isNumber = true;
            for (Form option : left) {
                greatest = Math.max(greatest, option.rightStop);
                isNumber = isNumber && option.isNumber;
            }
            for (Form option : right) {
                least = Math.min(least, option.leftStop);
                isNumber = isNumber && option.isNumber;
            }
            isNumber = isNumber && greatest < least;
            if (!isNumber) {
                leftStop = greatest;
                rightStop = least;
                return;
            }
            if (hasLeft && hasRight) {
                value = (greatest + least) / 2;
            } else if (hasLeft) {
                value = greatest + UNIT;
            } else if (hasRight) {
                value = least - UNIT;
            }
            leftStop = value;
            rightStop = value;
        }

        private boolean isHeap(int size) {
            return left.length == size && right.length == size
                    && areHeapsBelow(left, size) && areHeapsBelow(right, size);
        }

        /** As no two options are the same, so many smaller heaps are all of the smaller heaps. */
        private static boolean areHeapsBelow(Form[] row, int size) {
            for (Form option : row) {
                if (option.heapSize < 0 || option.heapSize >= size) {
                    return false;
                }
            }
            return true;
        }

        private static boolean hasLoser(Form[] choices, boolean isLeftNext) {
            for (Form choice : choices) {
                if (!choice.winsMoving(isLeftNext)) {
                    return true;
                }
            }
            return false;
        }
    }

    /** All forms, each kept behind its options. */
    private static final class FormBook {
        private static final int AT_MOST_KNOWN = 1;
        private static final int AT_MOST = 2;
        private static final int AT_LEAST_KNOWN = 4;
        private static final int AT_LEAST = 8;

        private final Form[] kept = new Form[MOST_KEPT];
        private int count;
        /**
         * The options that are looked at while a form is made smaller, and which of them are left out. Each one is
         * the form of a position that comes by moves: so there are fewer than positions.
         */
        private final Form[] pending = new Form[MOST_POSITIONS];
        private final boolean[] dropped = new boolean[MOST_POSITIONS];
        private int pendingCount;

        /** The form of what has these options. */
        Form formOver(Position[] left, Position[] right) {
            Form form = new Form(count, formsOf(left), formsOf(right));
            gather(form, true);
            dropWorse(true);
            Form[] leftBest = rest();
            gather(form, false);
            dropWorse(false);
            Form[] rightBest = rest();
            Form same = find(leftBest, rightBest);
            if (same != null) {
                return same;
            }
            form.left = leftBest;
            form.right = rightBest;
            form.settle();
            if (count < kept.length) {
                kept[count] = form;
                count++;
            }
            return form;
        }

        private static Form[] formsOf(Position[] row) {
            Form[] forms = new Form[row.length];
            for (int i = 0; i < row.length && i < forms.length; i++) {
                forms[i] = row[i].form;
            }
            return forms;
        }

        /**
         * Brings together the options, with those that are answered at once replaced, of which none is taken twice.
         * As this does not change what the game is worth, it is compared by its first options all along.
         */
        private void gather(Form game, boolean isLeft) {
            pendingCount = 0;
            addAll(game.optionsFor(isLeft));
            for (int i = 0; i < pendingCount && i < pending.length; i++) {
                dropped[i] = false;
                for (Form answer : pending[i].optionsFor(!isLeft)) {
                    if (!dropped[i] && (isLeft ? isAtMost(answer, game) : isAtMost(game, answer))) {
                        dropped[i] = true;
                        addAll(answer.optionsFor(isLeft));
                    }
                }
            }
        }

        private void addAll(Form[] row) {
            for (Form form : row) {
                if (!isPending(form) && pendingCount < pending.length) {
                    pending[pendingCount] = form;
                    pendingCount++;
                }
            }
        }

        private boolean isPending(Form form) {
            for (int i = 0; i < pendingCount && i < pending.length; i++) {
                if (pending[i] == form) {
                    return true;
                }
            }
            return false;
        }

        private void dropWorse(boolean isLeft) {
            for (int i = 0; i < pendingCount && i < pending.length; i++) {
                for (int j = 0; j < pendingCount && j < pending.length && !dropped[i]; j++) {
                    if (i != j && !dropped[j]) {
                        dropped[i] = isLeft ? isAtMost(pending[i], pending[j]) : isAtMost(pending[j], pending[i]);
                    }
                }
            }
        }

        private Form[] rest() {
            int size = 0;
            for (int i = 0; i < pendingCount && i < dropped.length; i++) {
                size += dropped[i] ? 0 : 1;
            }
            Form[] rest = new Form[size];
            int at = 0;
            for (int i = 0; i < pendingCount && i < pending.length && at < rest.length; i++) {
                if (!dropped[i]) {
                    rest[at] = pending[i];
                    at++;
                }
            }
            return rest;
        }

        private Form find(Form[] left, Form[] right) {
            for (int i = 0; i < count && i < kept.length; i++) {
                Form form = kept[i];
                if (form != null && areSame(form.left, left) && areSame(form.right, right)) {
                    return form;
                }
            }
            return null;
        }

        /** Neither row has a form twice. */
        private static boolean areSame(Form[] one, Form[] other) {
            if (one.length != other.length) {
                return false;
            }
            for (Form wanted : one) {
                boolean isThere = false;
                for (Form form : other) {
                    isThere = isThere || form == wanted;
                }
                if (!isThere) {
                    return false;
                }
            }
            return true;
        }

        /** Each step leaves one of the two forms for an option of it: so it goes 24 deep at most. */
        private static boolean isAtMost(Form low, Form high) {
            if (low == high) {
                return true;
            }
            int known = knownOrder(low, high);
            if ((known & AT_MOST_KNOWN) != 0) {
                return (known & AT_MOST) != 0;
            }
            boolean isAtMost = true;
            for (int i = 0; i < low.left.length && isAtMost; i++) {
                isAtMost = !isAtMost(high, low.left[i]);
            }
            for (int i = 0; i < high.right.length && isAtMost; i++) {
                isAtMost = !isAtMost(high.right[i], low);
            }
            noteOrder(low, high, isAtMost);
            return isAtMost;
        }

        /** The order of two forms stands with the one that has the greater index, as seen from it. */
        private static int knownOrder(Form low, Form high) {
            if (low.index > high.index) {
                return high.index >= 0 && high.index < low.order.length ? low.order[high.index] : 0;
            }
            int seen = low.index >= 0 && low.index < high.order.length ? high.order[low.index] : 0;
            return ((seen & AT_LEAST_KNOWN) != 0 ? AT_MOST_KNOWN : 0) | ((seen & AT_LEAST) != 0 ? AT_MOST : 0);
        }

        private static void noteOrder(Form low, Form high, boolean isAtMost) {
            if (low.index > high.index) {
                if (high.index >= 0 && high.index < low.order.length) {
                    low.order[high.index] |= (byte) (AT_MOST_KNOWN | (isAtMost ? AT_MOST : 0));
                }
            } else if (low.index >= 0 && low.index < high.order.length) {
                high.order[low.index] |= (byte) (AT_LEAST_KNOWN | (isAtMost ? AT_LEAST : 0));
            }
        }

        /** Cools this form and all that it is made of, the options first. */
        void coolThrough(Form last) {
            for (int i = 0; i <= last.index && i < count && i < kept.length; i++) {
                Form form = kept[i];
                if (form != null && !form.heat.isKnown) {
                    Cooling.cool(form);
                }
            }
        }
    }

    /** How hot a form is, and the walls that were asked for last, with the times they are for. */
    private static final class Heat {
        boolean isKnown;
        int temperature;
        int mean;
        int leftTime = -1;
        int leftWall;
        int rightTime = -1;
        int rightWall;
    }

    /** Walls by what the form is cooled by, which is called the time here. */
    private static final class Cooling {
        /** Needs all options to be cooled. */
        static void cool(Form form) {
            Heat heat = form.heat;
            heat.temperature = form.isNumber ? 0 : temperatureOf(form);
            heat.mean = form.isNumber ? form.value : wallWhileHot(form, true, heat.temperature);
            heat.isKnown = true;
        }

        /** The walls only come nearer to each other as time goes on: so the first time they meet can be searched. */
        private static int temperatureOf(Form form) {
            if (gap(form, 0) <= 0) {
                return 0;
            }
            int apart = 0;
            int met = HOTTEST;
            for (int i = 0; i < 32 && met - apart > 1; i++) {
                int middle = (apart + met) / 2;
                if (gap(form, middle) > 0) {
                    apart = middle;
                } else {
                    met = middle;
                }
            }
            return met;
        }

        private static int gap(Form form, int time) {
            return wallWhileHot(form, true, time) - wallWhileHot(form, false, time);
        }

        /** Goes to options only: so it goes 12 deep at most. */
        private static int wallAt(Form form, boolean isLeft, int time) {
            Heat heat = form.heat;
            if (time >= heat.temperature) {
                return heat.mean;
            }
            if ((isLeft ? heat.leftTime : heat.rightTime) == time) {
                return isLeft ? heat.leftWall : heat.rightWall;
            }
            int wall = wallWhileHot(form, isLeft, time);
            if (isLeft) {
                heat.leftTime = time;
                heat.leftWall = wall;
            } else {
                heat.rightTime = time;
                heat.rightWall = wall;
            }
            return wall;
        }

        private static int wallWhileHot(Form form, boolean isLeft, int time) {
            int best = isLeft ? -HOTTEST : HOTTEST;
            for (Form option : form.optionsFor(isLeft)) {
                int wall = wallAt(option, !isLeft, time);
                best = isLeft ? Math.max(best, wall) : Math.min(best, wall);
            }
            return isLeft ? best - time : best + time;
        }
    }

    /** Plain play of one game plus another one turned, with all positions of both. */
    private static final class Duel {
        private final int[] firstPlaces = new int[MOST_KEPT];
        private final int[] secondPlaces = new int[MOST_KEPT];
        /** Whether Left wins if Left is the one to move, for each two positions. */
        private final boolean[] leftWins = new boolean[MOST_POSITIONS * MOST_POSITIONS];
        private final boolean[] rightWins = new boolean[MOST_POSITIONS * MOST_POSITIONS];
        /** What came out for each two games, 0 if they were not played yet. */
        private final char[] verdicts = new char[MOST_GAMES * MOST_GAMES];

        char verdict(Game first, Game second) {
            int place = first.number * MOST_GAMES + second.number;
            if (place < 0 || place >= verdicts.length) {
                return playedOut(first, second);
            }
            if (verdicts[place] == 0) {
                verdicts[place] = playedOut(first, second);
            }
            return verdicts[place];
        }

        private char playedOut(Game first, Game second) {
            note(first.within, firstPlaces);
            note(second.within, secondPlaces);
            int last = 0;
            for (int i = 0; i < first.within.length; i++) {
                for (int j = 0; j < second.within.length; j++) {
                    last = cell(i, j);
                    boolean isLefts = hasWin(true, first.within[i], second.within[j], i, j);
                    boolean isRights = hasWin(false, first.within[i], second.within[j], i, j);
                    if (last < leftWins.length && last < rightWins.length) {
                        leftWins[last] = isLefts;
                        rightWins[last] = isRights;
                    }
                }
            }
            return sign(isWin(leftWins, last), isWin(rightWins, last));
        }

        private static char sign(boolean isLefts, boolean isRights) {
            if (isLefts) {
                return isRights ? '|' : '>';
            }
            return isRights ? '<' : '=';
        }

        private static void note(Position[] within, int[] places) {
            for (int i = 0; i < within.length; i++) {
                int index = within[i].index;
                if (index >= 0 && index < places.length) {
                    places[index] = i;
                }
            }
        }

        private static int placeOf(Position position, int[] places) {
            return position.index >= 0 && position.index < places.length ? places[position.index] : 0;
        }

        private static int cell(int i, int j) {
            return i * MOST_POSITIONS + j;
        }

        private static boolean isWin(boolean[] wins, int at) {
            return at >= 0 && at < wins.length && wins[at];
        }

        /** In the turned game each player has the other one's options. */
        private boolean hasWin(boolean isLeft, Position first, Position second, int i, int j) {
            boolean[] otherWins = isLeft ? rightWins : leftWins;
            for (Position option : first.optionsFor(isLeft)) {
                if (!isWin(otherWins, cell(placeOf(option, firstPlaces), j))) {
                    return true;
                }
            }
            for (Position option : second.optionsFor(!isLeft)) {
                if (!isWin(otherWins, cell(i, placeOf(option, secondPlaces)))) {
                    return true;
                }
            }
            return false;
        }
    }

    /** Writes forms. */
    private static final class Scribe {
        /** The text, or null if it is too long. Goes to options only: so it goes 12 deep at most. */
        private static String textOf(Form form) {
            if (!form.isTextTried) {
                form.isTextTried = true;
                form.text = newText(form);
            }
            return form.text;
        }

        private static String newText(Form form) {
            if (form.isNumber) {
                return textOfNumber(form.value);
            }
            return form.heapSize > 0 ? textOfHeap(form.heapSize) : textOfOptions(form);
        }

        private static String textOfNumber(int value) {
            StringBuilder text = new StringBuilder();
            int over = value < 0 ? -value : value;
            int under = UNIT;
            for (int i = 0; i < 32 && under > 1 && (over & 1) == 0; i++) {
                over >>= 1;
                under >>= 1;
            }
            if (value < 0) {
                text.append('-');
            }
            text.append(over);
            if (under > 1) {
                text.append('/');
                text.append(under);
            }
            return text.toString();
        }

        private static String textOfHeap(int size) {
            StringBuilder text = new StringBuilder();
            text.append('*');
            if (size > 1) {
                text.append(size);
            }
            return text.toString();
        }

        private static String textOfOptions(Form form) {
            int length = lengthOf(form.left) + lengthOf(form.right) + 3;
            if (length > MOST_TEXT) {
                return null;
            }
            order(form.left);
            order(form.right);
            StringBuilder text = new StringBuilder();
            text.append('{');
            append(text, form.left);
            text.append('|');
            append(text, form.right);
            text.append('}');
            return text.toString();
        }

        private static int lengthOf(Form[] row) {
            int length = Math.max(0, row.length - 1);
            for (Form option : row) {
                String text = textOf(option);
                length += text == null ? MOST_TEXT : text.length();
            }
            return length;
        }

        private static void order(Form[] row) {
            for (int i = 1; i < row.length; i++) {
                for (int j = i; j > 0 && comesBefore(textOf(row[j]), textOf(row[j - 1])); j--) {
                    Form moved = row[j];
                    row[j] = row[j - 1];
                    row[j - 1] = moved;
                }
            }
        }

        private static boolean comesBefore(String one, String other) {
            if (one == null || other == null) {
                return false;
            }
            if (one.length() != other.length()) {
                return one.length() < other.length();
            }
            for (int i = 0; i < one.length() && i < other.length(); i++) {
                if (one.charAt(i) != other.charAt(i)) {
                    return one.charAt(i) < other.charAt(i);
                }
            }
            return false;
        }

        private static void append(StringBuilder text, Form[] row) {
            for (int i = 0; i < row.length; i++) {
                String option = textOf(row[i]);
                if (i > 0) {
                    text.append(',');
                }
                if (option != null) {
                    text.append(option);
                }
            }
        }
    }

    /** A play: its positions from the beginning on, and the moves that led from each to the next. */
    private static final class Play {
        private final Position[] path = new Position[MOST_DEPTH + 1];
        private final int[] chosen = new int[MOST_DEPTH];
        private boolean leftBegan;
        int made;

        void start(Position top, boolean leftBegins) {
            path[0] = top;
            leftBegan = leftBegins;
            made = 0;
        }

        /** The position that is reached, or null if there is no play. */
        Position now() {
            return made >= 0 && made < path.length ? path[made] : null;
        }

        boolean isLeftsTurn() {
            return isLeftsTurnAfter(made);
        }

        private boolean isLeftsTurnAfter(int moved) {
            return ((moved & 1) == 0) == leftBegan;
        }

        void goOn(int move, Position next) {
            if (made >= 0 && made < chosen.length && made + 1 < path.length) {
                chosen[made] = move;
                path[made + 1] = next;
                made++;
            }
        }

        /** The place of the first move that threw a win away, or -1. */
        int firstMistake() {
            for (int i = 0; i < made && i + 1 < path.length; i++) {
                boolean isLeft = isLeftsTurnAfter(i);
                Position before = path[i];
                Position after = path[i + 1];
                if (before != null && after != null && before.winsMoving(isLeft) && after.winsMoving(!isLeft)) {
                    return i;
                }
            }
            return -1;
        }

        boolean comesByMoves() {
            for (int i = 0; i < made && i < chosen.length && i + 1 < path.length; i++) {
                Position before = path[i];
                if (before == null) {
                    return false;
                }
                Position[] choices = before.optionsFor(isLeftsTurnAfter(i));
                int choice = chosen[i];
                if (choice < 0 || choice >= choices.length || choices[choice] != path[i + 1]) {
                    return false;
                }
            }
            return true;
        }
    }
}
