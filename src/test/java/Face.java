import java.lang.reflect.Method;
import java.util.Arrays;

/** Calls by their names, for tests that go through rows of calls. */
final class Face {
    private Face() { }

    static int call(WornWeights x, String name, int... args) {
        try {
            Class<?>[] types = new Class<?>[args.length];
            Arrays.fill(types, int.class);
            Method method = WornWeights.class.getMethod(name, types);
            return (int) method.invoke(x, Arrays.stream(args).boxed().toArray());
        } catch (ReflectiveOperationException thrown) {
            throw new IllegalStateException(name + Arrays.toString(args) + " threw", thrown);
        }
    }

    /**
     * An object with something of all: six WEIGHTS, one of each KIND; a PAGE; 13 TEXTS; a SHEET of shorts
     * (0), two of floats (1, 2), one MISSING (3); SLOTS with a WEIGHT, a SHEET, a number, nothing, a SHEET
     * without a number; AN IMAGE that is otherwise than what is; a TEXT on a full TAPE; THE DAYS TOLD of
     * one DAY, that wait.
     */
    static WornWeights rich() {
        WornWeights x = Due.with(0, 100, 1, 110, 2, 120, 3, 130, 4, 140, 5, 150);
        for (int i = 0; i < 12; i++) {
            Due.text(x, "law s-" + i);
        }
        Due.text(x, "wear 2");
        x.keep();
        x.days(1);
        int grains = x.count(1);
        int shot = x.count(4);
        x.back();
        x.arm(1, 0, 95);
        x.weigh(1, 0b000011, 0b001100);
        x.shoot(0, 7);
        x.days(1);
        x.sheet(0, 0, 24);
        x.mark(0, 0, 30);
        x.mark(0, 3, 33);
        x.sheet(1, 1, 6);
        x.mark(1, 0, 40);
        x.mark(1, 2, Due.NONE);
        x.mark(1, 3, 43);
        x.sheet(2, 1, 3);
        x.mark(2, 0, 50);
        x.lay(0, 1, 3);
        x.lay(1, 2, 1);
        x.lay(2, 3, 1234567);
        x.lay(4, 2, 0);
        String text = "fine l+11";
        Due.tape(x, text + " ".repeat(96 - text.length()));
        x.tell(grains);
        x.tell(shot);
        return x;
    }
}
