import java.util.ArrayList;
import java.util.HashMap;
import java.util.LinkedHashSet;
import java.util.List;
import java.util.Map;
import java.util.Set;

/**
 * The document's words once more, in another way: positions are texts, forms are made smaller step by step as long as
 * anything changes, and walls are lines with corners. Slow and free in its means, as tests may be.
 */
final class Reference {
    /** A form, by its options. */
    static final class Form {
        final Set<Form> left;
        final Set<Form> right;

        Form(Set<Form> left, Set<Form> right) {
            this.left = left;
            this.right = right;
        }

        Set<Form> of(boolean isLeft) {
            return isLeft ? left : right;
        }
    }

    private final List<String> games = new ArrayList<>();
    private final Map<String, List<String>> madeLeft = new HashMap<>();
    private final Map<String, List<String>> madeRight = new HashMap<>();
    private final List<String> toldLeft = new ArrayList<>();
    private final List<String> toldRight = new ArrayList<>();
    private final Map<String, List<String>> optionsKept = new HashMap<>();
    private final Map<String, Form> forms = new HashMap<>();
    private final Map<String, Boolean> wins = new HashMap<>();
    private final Map<Form, Map<Form, Boolean>> atMost = new HashMap<>();
    private final Map<Form, String> texts = new HashMap<>();
    private final Map<Form, Lines> lines = new HashMap<>();
    private String written = "";
    private List<String> path;
    private boolean leftBegan;
    private long moved;

    // positions: w-3, h4, m7 (made), s(first,second) and t(position)

    private List<String> optionsOf(String position, boolean isLeft) {
        String key = (isLeft ? "L" : "R") + position;
        List<String> known = optionsKept.get(key);
        if (known == null) {
            known = newOptions(position, isLeft);
            optionsKept.put(key, known);
        }
        return known;
    }

    private List<String> newOptions(String position, boolean isLeft) {
        List<String> all = new ArrayList<>();
        String inside = position.substring(1);
        switch (position.charAt(0)) {
            case 'w':
                int n = Integer.parseInt(inside);
                if (isLeft ? n > 0 : n < 0) {
                    all.add("w" + (isLeft ? n - 1 : n + 1));
                }
                break;
            case 'h':
                for (int i = 0; i < Integer.parseInt(inside); i++) {
                    all.add("h" + i);
                }
                break;
            case 'm':
                all.addAll((isLeft ? madeLeft : madeRight).get(position));
                break;
            case 't':
                for (String option : optionsOf(inside.substring(1, inside.length() - 1), !isLeft)) {
                    all.add("t(" + option + ")");
                }
                break;
            default:
                int comma = commaOf(inside);
                String first = inside.substring(1, comma);
                String second = inside.substring(comma + 1, inside.length() - 1);
                for (String option : optionsOf(first, isLeft)) {
                    all.add("s(" + option + "," + second + ")");
                }
                for (String option : optionsOf(second, isLeft)) {
                    all.add("s(" + first + "," + option + ")");
                }
        }
        return all;
    }

    private static int commaOf(String inside) {
        int open = 0;
        for (int i = 0; i < inside.length(); i++) {
            char c = inside.charAt(i);
            open += c == '(' ? 1 : c == ')' ? -1 : 0;
            if (c == ',' && open == 1) {
                return i;
            }
        }
        throw new AssertionError(inside);
    }

    private void collect(String position, Set<String> all) {
        if (all.add(position)) {
            for (boolean isLeft : new boolean[] {true, false}) {
                for (String option : optionsOf(position, isLeft)) {
                    collect(option, all);
                }
            }
        }
    }

    private final Map<String, Integer> depths = new HashMap<>();

    private int depthOf(String position) {
        Integer known = depths.get(position);
        if (known == null) {
            known = 0;
            for (boolean isLeft : new boolean[] {true, false}) {
                for (String option : optionsOf(position, isLeft)) {
                    known = Math.max(known, 1 + depthOf(option));
                }
            }
            depths.put(position, known);
        }
        return known;
    }

    private boolean wins(String position, boolean isLeft) {
        String key = (isLeft ? "L" : "R") + position;
        Boolean known = wins.get(key);
        if (known == null) {
            known = false;
            for (String option : optionsOf(position, isLeft)) {
                known = known || !wins(option, !isLeft);
            }
            wins.put(key, known);
        }
        return known;
    }

    // forms

    private Form formOf(String position) {
        Form known = forms.get(position);
        if (known == null) {
            Set<Form> left = new LinkedHashSet<>();
            Set<Form> right = new LinkedHashSet<>();
            optionsOf(position, true).forEach(option -> left.add(formOf(option)));
            optionsOf(position, false).forEach(option -> right.add(formOf(option)));
            known = smallest(new Form(left, right));
            for (Form other : forms.values()) {
                if (other.left.equals(known.left) && other.right.equals(known.right)) {
                    known = other;
                    break;
                }
            }
            forms.put(position, known);
        }
        return known;
    }

    private Form smallest(Form form) {
        for (boolean isLeft : new boolean[] {true, false}) {
            for (Form option : form.of(isLeft)) {
                for (Form other : form.of(isLeft)) {
                    if (option != other && (isLeft ? isAtMost(option, other) : isAtMost(other, option))) {
                        return smallest(without(form, option, isLeft, Set.of()));
                    }
                }
                for (Form answer : option.of(!isLeft)) {
                    if (isLeft ? isAtMost(answer, form) : isAtMost(form, answer)) {
                        return smallest(without(form, option, isLeft, answer.of(isLeft)));
                    }
                }
            }
        }
        return form;
    }

    private static Form without(Form form, Form option, boolean isLeft, Set<Form> instead) {
        Set<Form> changed = new LinkedHashSet<>(form.of(isLeft));
        changed.remove(option);
        changed.addAll(instead);
        return isLeft ? new Form(changed, form.right) : new Form(form.left, changed);
    }

    private boolean isAtMost(Form x, Form y) {
        Map<Form, Boolean> row = atMost.computeIfAbsent(x, f -> new HashMap<>());
        Boolean known = row.get(y);
        if (known == null) {
            known = true;
            for (Form option : x.left) {
                known = known && !isAtMost(y, option);
            }
            for (Form option : y.right) {
                known = known && !isAtMost(option, x);
            }
            row.put(y, known);
        }
        return known;
    }

    private static int birthdayOf(Form form) {
        int birthday = 0;
        for (boolean isLeft : new boolean[] {true, false}) {
            for (Form option : form.of(isLeft)) {
                birthday = Math.max(birthday, 1 + birthdayOf(option));
            }
        }
        return birthday;
    }

    private boolean isNumber(Form form) {
        for (boolean isLeft : new boolean[] {true, false}) {
            for (Form option : form.of(isLeft)) {
                if (!isNumber(option)) {
                    return false;
                }
            }
        }
        for (Form option : form.left) {
            for (Form other : form.right) {
                if (!isAtMost(option, other) || isAtMost(other, option)) {
                    return false;
                }
            }
        }
        return true;
    }

    private double numberOf(Form form) {
        if (form.left.size() > 1 || form.right.size() > 1) {
            throw new AssertionError("a number with two options for a player");
        }
        double left = form.left.isEmpty() ? 0 : numberOf(form.left.iterator().next());
        double right = form.right.isEmpty() ? 0 : numberOf(form.right.iterator().next());
        if (form.left.isEmpty()) {
            return form.right.isEmpty() ? 0 : right - 1;
        }
        return form.right.isEmpty() ? left + 1 : (left + right) / 2;
    }

    private static int heapOf(Form form) {
        int size = form.left.size();
        if (!form.left.equals(form.right)) {
            return -1;
        }
        boolean[] found = new boolean[size];
        for (Form option : form.left) {
            int heap = heapOf(option);
            if (heap < 0 || heap >= size || found[heap]) {
                return -1;
            }
            found[heap] = true;
        }
        return size;
    }

    private double stopOf(Form form, boolean isLeft) {
        if (isNumber(form)) {
            return numberOf(form);
        }
        double best = isLeft ? -1000 : 1000;
        for (Form option : form.of(isLeft)) {
            double stop = stopOf(option, !isLeft);
            best = isLeft ? Math.max(best, stop) : Math.min(best, stop);
        }
        return best;
    }

    private String textOf(Form form) {
        String known = texts.get(form);
        if (known == null) {
            known = newText(form);
            texts.put(form, known);
        }
        return known;
    }

    /** Too long texts are cut to 201 characters, as they would grow without end. */
    private String newText(Form form) {
        if (isNumber(form)) {
            double number = numberOf(form);
            long under = 1;
            while (Math.rint(number * under) != number * under) {
                under *= 2;
            }
            return (long) (number * under) + (under > 1 ? "/" + under : "");
        }
        if (heapOf(form) > 0) {
            return heapOf(form) == 1 ? "*" : "*" + heapOf(form);
        }
        String text = "{" + listOf(form.left) + "|" + listOf(form.right) + "}";
        return text.length() > 200 ? text.substring(0, 201) : text;
    }

    private String listOf(Set<Form> row) {
        List<String> all = new ArrayList<>();
        row.forEach(option -> all.add(textOf(option)));
        all.sort((one, other) -> one.length() != other.length() ? one.length() - other.length() : one.compareTo(other));
        return String.join(",", all);
    }

    // heat

    /** Both walls, straight between their corners, and as they are at the last corner from there on. */
    private static final class Lines {
        final List<Double> times = new ArrayList<>();
        final List<Double> left = new ArrayList<>();
        final List<Double> right = new ArrayList<>();

        void add(double time, double leftWall, double rightWall) {
            times.add(time);
            left.add(leftWall);
            right.add(rightWall);
        }

        /** Walls and gaps are level, or go by 1 or 2: a whole number, however the quotient was rounded. */
        static double slope(double change, double time) {
            return Math.rint(change / time);
        }

        double last() {
            return times.get(times.size() - 1);
        }

        double at(boolean isLeft, double time) {
            List<Double> walls = isLeft ? left : right;
            for (int i = 1; i < times.size(); i++) {
                double from = times.get(i - 1);
                double to = times.get(i);
                if (time <= to) {
                    return walls.get(i - 1) + slope(walls.get(i) - walls.get(i - 1), to - from) * (time - from);
                }
            }
            return walls.get(walls.size() - 1);
        }
    }

    private Lines linesOf(Form form) {
        Lines known = lines.get(form);
        if (known == null) {
            known = newLines(form);
            lines.put(form, known);
        }
        return known;
    }

    /** Between two corners of the options, any two walls cross once at most, where one rises and one is level. */
    private Lines newLines(Form form) {
        Lines made = new Lines();
        if (isNumber(form)) {
            made.add(0, numberOf(form), numberOf(form));
            return made;
        }
        java.util.TreeSet<Double> corners = new java.util.TreeSet<>();
        corners.add(0.0);
        corners.add(64.0);
        for (boolean isLeft : new boolean[] {true, false}) {
            for (Form option : form.of(isLeft)) {
                corners.addAll(linesOf(option).times);
            }
        }
        List<Double> old = new ArrayList<>(corners);
        for (int i = 1; i < old.size(); i++) {
            addCrossings(form, old.get(i - 1), old.get(i), corners);
        }
        double before = 0;
        for (double time : corners) {
            double left = raw(form, true, time);
            double right = raw(form, false, time);
            if (left <= right) {
                if (time > 0) {
                    double gapBefore = raw(form, true, before) - raw(form, false, before);
                    time = before + gapBefore / Lines.slope(gapBefore - (left - right), time - before);
                    left = raw(form, true, time);
                }
                made.add(time, left, left);
                return made;
            }
            made.add(time, left, right);
            before = time;
        }
        throw new AssertionError("the walls never meet");
    }

    private void addCrossings(Form form, double from, double to, Set<Double> corners) {
        for (boolean isLeft : new boolean[] {true, false}) {
            for (Form one : form.of(isLeft)) {
                for (Form other : form.of(isLeft)) {
                    double atFrom = linesOf(one).at(!isLeft, from) - linesOf(other).at(!isLeft, from);
                    double atTo = linesOf(one).at(!isLeft, to) - linesOf(other).at(!isLeft, to);
                    if (atFrom < 0 && atTo > 0) {
                        corners.add(from - atFrom / Lines.slope(atTo - atFrom, to - from));
                    }
                }
            }
        }
    }

    private double raw(Form form, boolean isLeft, double time) {
        double best = isLeft ? -1000 : 1000;
        for (Form option : form.of(isLeft)) {
            double wall = linesOf(option).at(!isLeft, time);
            best = isLeft ? Math.max(best, wall) : Math.min(best, wall);
        }
        return isLeft ? best - time : best + time;
    }

    // the face, with answers as texts and exceptions by the first letters of their names

    private boolean isNoGame(int game) {
        return game < 0 || game >= games.size();
    }

    private String isTooMuch(String position) {
        Set<String> all = new LinkedHashSet<>();
        collect(position, all);
        return all.size() > 40 || depthOf(position) > 12 ? "UnsupportedOperationException" : null;
    }

    private String enrol(String position) {
        games.add(position);
        return String.valueOf(games.size() - 1);
    }

    private static String isTrue(boolean value) {
        return value ? "true" : "false";
    }

    String tellOption(boolean isLeft, int game) {
        List<String> told = isLeft ? toldLeft : toldRight;
        if (isNoGame(game)) {
            return "IndexOutOfBoundsException";
        }
        if (told.size() == 4) {
            return "IllegalStateException";
        }
        told.add(games.get(game));
        return String.valueOf(told.size());
    }

    String clearOptions() {
        int all = toldLeft.size() + toldRight.size();
        toldLeft.clear();
        toldRight.clear();
        return String.valueOf(all);
    }

    private int madeCount;

    String make() {
        String position = "m" + madeCount++;
        madeLeft.put(position, new ArrayList<>(toldLeft));
        madeRight.put(position, new ArrayList<>(toldRight));
        if (isTooMuch(position) != null) {
            return isTooMuch(position);
        }
        if (games.size() == 24) {
            return "IllegalStateException";
        }
        clearOptions();
        return enrol(position);
    }

    String whole(int n) {
        if (n < -6 || n > 6) {
            return "IllegalArgumentException";
        }
        return games.size() == 24 ? "IllegalStateException" : enrol("w" + n);
    }

    String heap(int n) {
        if (n < 0 || n > 6) {
            return "IllegalArgumentException";
        }
        return games.size() == 24 ? "IllegalStateException" : enrol("h" + n);
    }

    String sum(int first, int second) {
        if (isNoGame(first) || isNoGame(second)) {
            return "IndexOutOfBoundsException";
        }
        String sum = "s(" + games.get(first) + "," + games.get(second) + ")";
        if (isTooMuch(sum) != null) {
            return isTooMuch(sum);
        }
        return games.size() == 24 ? "IllegalStateException" : enrol(sum);
    }

    String turned(int game) {
        if (isNoGame(game)) {
            return "IndexOutOfBoundsException";
        }
        return games.size() == 24 ? "IllegalStateException" : enrol("t(" + games.get(game) + ")");
    }

    /** What is asked of one game, by the name of the method. */
    String ask(String what, int game, boolean isLeft, int sixteenths) {
        if (isNoGame(game)) {
            return "IndexOutOfBoundsException";
        }
        String top = games.get(game);
        Form form = formOf(top);
        switch (what) {
            case "positions":
                Set<String> all = new LinkedHashSet<>();
                collect(top, all);
                return String.valueOf(all.size());
            case "depth":
                return String.valueOf(depthOf(top));
            case "outcome":
                boolean left = wins(top, true);
                boolean right = wins(top, false);
                return left && right ? "N" : left ? "L" : right ? "R" : "P";
            case "kindOf":
                return kind(form);
            case "number":
                return isNumber(form) ? String.valueOf(numberOf(form)) : "NoSuchElementException";
            case "heapOf":
                return heapOf(form) < 0 ? "NoSuchElementException" : String.valueOf(heapOf(form));
            case "birthday":
                return String.valueOf(birthdayOf(form));
            case "options":
                return String.valueOf(form.of(isLeft).size());
            case "write":
                if (textOf(form).length() > 200) {
                    return "UnsupportedOperationException";
                }
                written = textOf(form);
                return String.valueOf(written.length());
            case "stop":
                return String.valueOf(stopOf(form, isLeft));
            case "wall":
                return sixteenths < 0 || sixteenths > 400 ? "IllegalArgumentException"
                        : String.valueOf(linesOf(form).at(isLeft, sixteenths / 16.0));
            case "temperature":
                return isNumber(form) ? "NoSuchElementException" : String.valueOf(linesOf(form).last());
            default:
                return String.valueOf(linesOf(form).at(isLeft, 64));
        }
    }

    private String kind(Form form) {
        if (isNumber(form)) {
            return "n";
        }
        double left = stopOf(form, true);
        double right = stopOf(form, false);
        return heapOf(form) > 0 ? "*" : left == 0 && right == 0 ? "i" : left > right ? "h" : "o";
    }

    /** Both ways to compare are asked by this: the order of forms, and plain play of the one plus the turned other. */
    String compare(int first, int second, boolean isByPlay) {
        if (isNoGame(first) || isNoGame(second)) {
            return "IndexOutOfBoundsException";
        }
        boolean isLess;
        boolean isMore;
        if (isByPlay) {
            String sum = "s(" + games.get(first) + ",t(" + games.get(second) + "))";
            isLess = !wins(sum, true);
            isMore = !wins(sum, false);
        } else {
            isLess = isAtMost(formOf(games.get(first)), formOf(games.get(second)));
            isMore = isAtMost(formOf(games.get(second)), formOf(games.get(first)));
        }
        return isLess && isMore ? "=" : isLess ? "<" : isMore ? ">" : "|";
    }

    String charAt(int index) {
        return index < 0 || index >= written.length() ? "IndexOutOfBoundsException" : written.substring(index, index + 1);
    }

    private boolean isLeftsTurn(int made) {
        return made % 2 == 0 ? leftBegan : !leftBegan;
    }

    private List<String> choices() {
        return optionsOf(path.get(path.size() - 1), isLeftsTurn(path.size() - 1));
    }

    String begin(int game, boolean leftBegins) {
        if (isNoGame(game)) {
            return "IndexOutOfBoundsException";
        }
        path = new ArrayList<>(List.of(games.get(game)));
        leftBegan = leftBegins;
        return String.valueOf(choices().size());
    }

    String move(int move) {
        if (path == null) {
            return "IllegalStateException";
        }
        if (move < 0 || move >= choices().size()) {
            return "IndexOutOfBoundsException";
        }
        path.add(choices().get(move));
        moved++;
        return String.valueOf(choices().size());
    }

    String takeBack() {
        if (path == null || path.size() == 1) {
            return "NoSuchElementException";
        }
        path.remove(path.size() - 1);
        return String.valueOf(path.size() - 1);
    }

    String canWin() {
        return path == null ? "IllegalStateException"
                : isTrue(wins(path.get(path.size() - 1), isLeftsTurn(path.size() - 1)));
    }

    String winningMove() {
        if (path == null) {
            return "IllegalStateException";
        }
        for (int i = 0; i < choices().size(); i++) {
            if (!wins(choices().get(i), !isLeftsTurn(path.size() - 1))) {
                return String.valueOf(i);
            }
        }
        return "NoSuchElementException";
    }

    String mistake() {
        if (path == null) {
            return "IllegalStateException";
        }
        for (int i = 0; i + 1 < path.size(); i++) {
            if (wins(path.get(i), isLeftsTurn(i)) && wins(path.get(i + 1), isLeftsTurn(i + 1))) {
                return String.valueOf(i);
            }
        }
        return "NoSuchElementException";
    }

    String moves() {
        return String.valueOf(moved);
    }

    String numberShare() {
        int numbers = 0;
        for (String game : games) {
            numbers += isNumber(formOf(game)) ? 1 : 0;
        }
        return games.isEmpty() ? "ArithmeticException" : String.valueOf((float) numbers / (float) games.size());
    }
}
