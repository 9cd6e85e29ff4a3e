import java.lang.reflect.Array;
import java.lang.reflect.Field;

/**
 * Promise 33 where the answer is false: no call leads there, so the state is spoilt behind the object's back. How it is
 * held is free: where its fields bear other names than these, there is nothing that this test can spoil.
 */
public final class SoundTest {
    public static void main(String[] args) throws ReflectiveOperationException {
        if (!isHeldAsKnown()) {
            System.out.println("  SoundTest: the state is held in another way, and was not spoilt");
            return;
        }
        winnerByForm();
        order();
        play();
        Check.end("SoundTest");
    }

    private static boolean isHeldAsKnown() throws ReflectiveOperationException {
        Thermographica x = new Thermographica();
        x.begin(x.heap(1), true);
        try {
            Object form = formOf(x, 0);
            Object play = field(x, "play");
            return field(form, "order") instanceof byte[] && field(form, "leftWins") instanceof Boolean
                    && field(form, "rightWins") instanceof Boolean && field(play, "path").getClass().isArray()
                    && field(play, "chosen") instanceof int[];
        } catch (NoSuchFieldException | IllegalArgumentException e) {
            return false;
        }
    }

    private static Object field(Object owner, String name) throws ReflectiveOperationException {
        return opened(owner, name).get(owner);
    }

    private static Field opened(Object owner, String name) throws ReflectiveOperationException {
        Field field = owner.getClass().getDeclaredField(name);
        field.setAccessible(true);
        return field;
    }

    private static Object formOf(Thermographica x, int game) throws ReflectiveOperationException {
        return field(field(Array.get(field(x, "games"), game), "top"), "form");
    }

    private static void winnerByForm() throws ReflectiveOperationException {
        for (int game = 0; game < 3; game++) {
            for (String name : new String[] {"leftWins", "rightWins"}) {
                Thermographica x = new Thermographica();
                x.heap(1);
                x.whole(2);
                x.whole(-2);
                Check.same("sound so far", x.isSound(), true);
                Field flag = opened(formOf(x, game), name);
                Object form = formOf(x, game);
                flag.setBoolean(form, !flag.getBoolean(form));
                Check.same("another winner by the form of " + game, x.isSound(), false);
            }
        }
    }

    /** The two ways to compare the last two games: all that is known of the order of their forms is turned over. */
    private static void order() throws ReflectiveOperationException {
        Thermographica x = new Thermographica();
        x.heap(1);
        x.whole(2);
        x.whole(-2);
        Check.same("sound so far", x.isSound(), true);
        Object known = field(formOf(x, 2), "order");
        for (int i = 0; i < Array.getLength(known); i++) {
            Array.setByte(known, i, (byte) (5 | 10 & ~Array.getByte(known, i)));
        }
        Check.same("another order by forms", x.isSound(), false);
    }

    private static void play() throws ReflectiveOperationException {
        for (int place = 0; place < 4; place++) {
            Thermographica x = new Thermographica();
            x.begin(x.heap(3), true);
            x.move(2);
            x.move(1);
            x.move(0);
            Check.same("sound so far", x.isSound(), true);
            Object path = field(field(x, "play"), "path");
            Array.set(path, place, Array.get(path, (place + 1) % 4));
            Check.same("another position at " + place, x.isSound(), false);
        }
        for (int wrong : new int[] {-1, 0, 3}) {
            Thermographica x = new Thermographica();
            x.begin(x.heap(3), false);
            x.move(2);
            Array.setInt(field(field(x, "play"), "chosen"), 0, wrong);
            Check.same("another move", x.isSound(), false);
        }
    }
}
