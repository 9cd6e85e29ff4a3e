import java.util.NoSuchElementException;

/** Counts and prints the answers that are not the ones that are due. */
final class Check {
    private static int checks;
    private static int wrong;

    private Check() {
    }

    static void same(String what, long got, long due) {
        tell(got == due, what, String.valueOf(got), String.valueOf(due));
    }

    static void same(String what, char got, char due) {
        tell(got == due, what, String.valueOf(got), String.valueOf(due));
    }

    static void same(String what, double got, double due) {
        tell(got == due, what, String.valueOf(got), String.valueOf(due));
    }

    static void same(String what, boolean got, boolean due) {
        tell(got == due, what, String.valueOf(got), String.valueOf(due));
    }

    static void same(String what, String got, String due) {
        tell(got.equals(due), what, got, due);
    }

    static void noGame(String what, Runnable call) {
        fails(what, IndexOutOfBoundsException.class, call);
    }

    static void illegal(String what, Runnable call) {
        fails(what, IllegalArgumentException.class, call);
    }

    static void badState(String what, Runnable call) {
        fails(what, IllegalStateException.class, call);
    }

    static void tooMuch(String what, Runnable call) {
        fails(what, UnsupportedOperationException.class, call);
    }

    static void none(String what, Runnable call) {
        fails(what, NoSuchElementException.class, call);
    }

    /** The exception must be of this very class: a machine's own subclass of it is wrong. */
    static void fails(String what, Class<?> due, Runnable call) {
        String got = "nothing";
        try {
            call.run();
        } catch (RuntimeException e) {
            got = e.getClass().getName();
        }
        tell(got.equals(due.getName()), what + " throws", got, due.getName());
    }

    private static void tell(boolean isRight, String what, String got, String due) {
        checks++;
        if (!isRight) {
            wrong++;
            System.out.println("  " + what + ": answered " + got + ", due is " + due);
        }
    }

    static void end(String name) {
        System.out.println("  " + name + ": " + checks + " checks, " + wrong + " wrong");
        if (wrong != 0 || checks == 0) {
            System.exit(1);
        }
    }

    /** What write() leaves, read by charAt(). */
    static String text(Thermographica x, int game) {
        int length = x.write(game);
        return read(x, length);
    }

    static String read(Thermographica x, int length) {
        StringBuilder text = new StringBuilder();
        for (int i = 0; i < length; i++) {
            text.append(x.charAt(i));
        }
        return text.toString();
    }

    /** A game made of options, told as numbers of games. */
    static int made(Thermographica x, int[] left, int[] right) {
        x.clearOptions();
        for (int option : left) {
            x.tellOption(true, option);
        }
        for (int option : right) {
            x.tellOption(false, option);
        }
        return x.make();
    }

    static int[] of(int... games) {
        return games;
    }
}
