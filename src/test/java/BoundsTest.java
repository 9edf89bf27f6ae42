import java.lang.reflect.Method;
import java.util.List;
import java.util.TreeSet;
import java.util.function.Supplier;

/**
 * Each number that a call takes: the last ones that are taken and the first that are not, on either side, and that a
 * call that is refused has changed nothing.
 */
public final class BoundsTest {
    private static final Dues DUES = new Dues();
    private static final TreeSet<String> TRIED = new TreeSet<>();
    private static final List<String> CHANGING = List.of("pitch", "seed", "rule", "sand", "stain", "build", "mound",
            "bury", "lies", "gone", "cut", "drawing", "mark", "draw", "size", "thole", "phosphor", "story", "sign",
            "check");

    public static void main(String[] args) throws ReflectiveOperationException {
        numbers();
        ship();
        drawings();
        lines();
        finds();
        hull();
        withoutShip();
        full();
        butTheTape();
        all();
        DUES.end("BoundsTest");
    }

    private static void numbers() throws ReflectiveOperationException {
        of("pitch", 0, 100).from(1, 1000);
        of("seed", 0, 1).from(0, 65535);
        of("rule", -1, 20).from(1, 20);
        of("sand", -1, 20).from(1, 20);
        of("stain", -1, 20).from(1, 20);
        for (String text : new String[] {"rule", "sand", "stain"}) {
            in(BoundsTest::withFullTape, text, -1, 20).from(1, 200);
        }
        of("count", -1, 0).from(0, 13);
        in(NailStain::new, "count", -1, 0).from(0, 9);
        TRIED.add("feed");
    }

    private static NailStain withFullTape() {
        NailStain x = new NailStain();
        for (int i = 0; i < 11; i++) {
            x.feed(0, 0, 0, 0, 0);
        }
        return x;
    }

    private static void ship() throws ReflectiveOperationException {
        of("build", -1, 5, 5).from(3, 24).from(1, 8);
        of("mound", 0, 1, 1).from(0, 23).from(0, 1000);
        of("bury", -1, 1).from(1, 9);
        of("lies", 0, 1, 1, 1, 5, 5).from(0, 3).from(0, 1).from(0, 1).from(-3000, 3000).from(-3000, 3000);
        of("gone", 0, 1, 0, 0).from(0, 3).from(0, 1).from(0, 1);
        of("rivet", -10000, 1, 1, 1, 1).from(0, 3).from(0, 1).from(0, 1).from(0, 4);
        of("cut", 0, 3).these(new int[] {0, 1, 8, 15}, -1, 16, 31, 1 << 24, Integer.MIN_VALUE, Integer.MAX_VALUE);
    }

    private static void drawings() throws ReflectiveOperationException {
        in(() -> Views.withShip(3), "drawing", -1, 1939).from(0, 2100);
        of("mark", 0, 1, 1, 1, 1, 5, 5).from(0, 3).from(0, 3).from(0, 1).from(0, 1).from(-6000, 6000)
                .from(-6000, 6000);
        of("draw", -1, 1, 5, 5, 500).from(0, 3).from(-2000, 2000).from(-2000, 2000).from(0, 1000);
        of("marked", -10000, 1, 1, 1, 1, 1).from(0, 3).from(0, 3).from(0, 1).from(0, 1).from(0, 1);
        of("joined", -1000000, 0, 1, 1).these(new int[] {0, 2, 3}, -1, 1, 4).these(new int[] {1, 3}, -1, 0, 4)
                .from(0, 4);
        of("off", -1, 0, 1, 5).these(new int[] {0, 2, 3}, -1, 1, 4).these(new int[] {1, 3}, -1, 0, 4)
                .from(0, 12000);
        of("slipped", -1, 0, 1, 2, 1, 1, 1).these(new int[] {0, 3}, -1, 1, 2, 4).these(new int[] {1, 3}, -1, 0, 2, 4)
                .these(new int[] {2, 3}, -1, 0, 1, 4).from(0, 3).from(0, 1).from(0, 1);
        in(() -> Views.withShip(2), "mark", 0, 1, 1, 1, 1, 5, 5).from(0, 1);
        in(() -> Views.withShip(2), "draw", -1, 1, 5, 5, 500).from(0, 1);
        in(() -> Views.withShip(2), "marked", -10000, 1, 1, 1, 1, 1).from(0, 1);
        in(() -> Views.withShip(2), "count", -1, 0).from(0, 11);
    }

    /** A span of more than 60 is not told, so none is that goes more than 30 farther out: 31 to 40 are such, too. */
    private static void lines() throws ReflectiveOperationException {
        of("span", -10000, 1, 1, 0, 1).from(0, 1).from(0, 3).from(0, 30).from(0, 1);
        of("batten", -1000000, 1, 0, 1).from(0, 1).from(0, 30).from(-1, 3);
        of("lost", -1, 1, 0, 1).from(0, 1).from(0, 30).from(0, 1);
        of("span", -10000, 1, 1, 0, 1).next().next().these(new int[] {0}, 40, 41);
        of("batten", -1000000, 1, 0, 1).next().these(new int[] {0}, 40, 41);
        of("lost", -1, 1, 0, 1).next().these(new int[] {0}, 40, 41);
    }

    private static void finds() throws ReflectiveOperationException {
        of("size", 0, 1, 1, 1, 5).from(0, 3).from(0, 1).from(0, 1).from(0, 99);
        of("repairs", -1, 1, 5, 1).from(0, 1).from(0, 99).from(0, 3);
        of("thole", 0, 2, 1, 1).from(0, 3).from(0, 1).from(-1, 1);
        of("oars", -1, 0).from(0, 3);
        of("pair", -1, 1, 1).from(0, 3).from(0, 1);
        of("phosphor", 0, 5, 5, 5).from(0, 11).from(0, 5).from(0, 999);
        of("body", -1, 3, 3, 3).from(1, 12).from(1, 6).from(0, 4);
        of("story", 0, 3, 3, 3).from(0, 5).from(0, 5).from(0, 1000);
        of("sign", 0, 3, 1).from(0, 5).from(-1, 1);
        of("odds", -1, 1).these(new int[] {-1, 0, 1, 5}, -2, 2, 4, 6, Integer.MIN_VALUE, Integer.MAX_VALUE);
        of("next", -1, 1).from(0, 1);
    }

    private static void hull() throws ReflectiveOperationException {
        of("area", -1, 1, 10, 0, 1).from(0, 3).from(1, 200).from(0, 30).from(0, 1);
        of("volume", -1, 10, 0, 1).from(1, 200).from(0, 30).from(0, 1);
        of("depth", -1, 10, 0, 1).from(1, 200).from(0, 30).from(0, 2000000000);
        of("pace", -1, 5).from(1, 1000);
        of("length", -1, 1, 0).from(0, 1).from(0, 30);
        of("joints", -3, 0, 0, 200, -1).from(0, 1).from(0, 30).from(1, 100000).from(-1, 0);
        of("lasts", -1, 50, 50).from(1, 10000).from(0, 100);
        of("check", -2, 1, 0, 2).from(0, 1).from(0, 30).from(0, 5);
    }

    /** Calls that need a ship, with numbers that would do if there were one. */
    private static void withoutShip() throws ReflectiveOperationException {
        noShip("bury", -1, 1);
        noShip("lies", 0, 0, 0, 0, 0, 0);
        noShip("gone", 0, 0, 0, 0);
        noShip("rivet", -10000, 0, 0, 0, 0);
        noShip("cut", 0, 1);
        noShip("drawing", -1, 1939);
        noShip("mark", 0, 0, 0, 0, 0, 0, 0);
        noShip("draw", -1, 0, 0, 0, 0);
        noShip("marked", -10000, 0, 0, 0, 0, 0);
        noShip("joined", -1000000, 0, 1, 2);
        noShip("off", -1, 0, 1, 0);
        noShip("slipped", -1, 0, 1, 2, 0, 0, 0);
        noShip("span", -10000, 0, 0, 0, 0);
        noShip("batten", -1000000, 0, 0, -1);
        noShip("batten", -1000000, 0, 0, 0);
        noShip("lost", -1, 0, 0, 0);
        noShip("size", 0, 0, 0, 0, 1);
        noShip("size", 0, 0, 0, 0, 0);
        noShip("repairs", -1, 0, 0, 0);
        noShip("thole", 0, 0, 0, -1);
        noShip("oars", -1, 0);
        noShip("pair", -1, 0, 0);
        noShip("area", -1, 0, 1, 0, 0);
        noShip("volume", -1, 1, 0, 0);
        noShip("depth", -1, 1, 0, 0);
        noShip("pace", -1, 1);
        noShip("length", -1, 0, 0);
        noShip("joints", -3, 0, 0, 100000, -1);
        noShip("check", -2, 0, 0, 0);
        noShip("count", -1, 10);
    }

    private static void noShip(String name, long refusal, int... numbers) throws ReflectiveOperationException {
        refused(Views::withoutShip, name, refusal, numbers);
    }

    private static void refused(Supplier<NailStain> ready, String name, long refusal, int... numbers)
            throws ReflectiveOperationException {
        new Bounds(ready, name, refusal, numbers).refuses(numbers);
    }

    /** Calls that what is there already, or not yet, refuses. */
    private static void full() throws ReflectiveOperationException {
        refused(BoundsTest::withFullTape, "feed", -1, 1, 2, 3, 4, 5);
        refused(() -> Views.withShip(4), "drawing", -1, 1939);
        refused(() -> Views.withShip(4), "gone", 0, 3, 1, 1);
        refused(() -> Views.withShip(0), "mark", 0, 0, 1, 1, 1, 5, 5);
        refused(() -> Views.withShip(0), "draw", -1, 0, 5, 5, 500);
        refused(() -> Views.withShip(0), "marked", -10000, 0, 1, 1, 1, 0);
        refused(() -> Views.withShip(1), "joined", -1000000, 0, 1, 2);
        refused(() -> Views.withShip(1), "off", -1, 0, 1, 5);
        refused(() -> Views.withShip(2), "slipped", -1, 0, 1, 2, 1, 1, 1);
        refused(BoundsTest::withSixtySizes, "size", 0, 15, 0, 0, 5);
        refused(BoundsTest::withAllCut, "check", -2, 0, 0, 5);
        refused(BoundsTest::withAllCut, "check", -2, 0, 0, 0);
        refused(BoundsTest::withAllCut, "depth", -1, 10, 0, 0);
        refused(NailStain::new, "rule", -1, 1);
        refused(NailStain::new, "sand", -1, 1);
        refused(NailStain::new, "stain", -1, 1);
        refused(NailStain::new, "check", -2, 0, 0, 1);
        refused(NailStain::new, "odds", -1, 0);
        refused(NailStain::new, "next", -1, 0);
    }

    private static NailStain withAllCut() {
        NailStain x = Views.withShip(4);
        x.cut(15);
        return x;
    }

    private static NailStain withSixtySizes() {
        NailStain x = new NailStain();
        x.build(24, 2);
        for (int i = 0; i < 60; i++) {
            x.size(i / 4, i / 2 % 2, i % 2, 5);
        }
        return x;
    }

    /** A fault and a check take the tape, and nothing else. */
    private static void butTheTape() throws ReflectiveOperationException {
        takesTheTape("rule", -1019, 19);
        takesTheTape("sand", -1000, 20);
        takesTheTape("stain", -1000, 1);
        takesTheTape("check", 0, 1, 0, 5);
        takesTheTape("check", 0, 1, 0, 0);
    }

    private static void takesTheTape(String name, long answer, int... numbers) throws ReflectiveOperationException {
        Bounds call = new Bounds(() -> Views.withShip(4), name, -1, numbers);
        NailStain x = Views.withShip(4);
        NailStain y = Views.withShip(4);
        DUES.due(name, call.call(x, numbers), answer);
        DUES.due(name, call.call(y, numbers), answer);
        List<Long> seen = Views.seen(Views.withShipAndEmptyTape(4));
        List<Long> seenBehind = Views.seenBehind(Views.withShipAndEmptyTape(4));
        DUES.yes(name + " takes the tape alone", Views.seen(x).equals(seen));
        DUES.yes(name + " takes the tape alone, and nothing behind", Views.seenBehind(y).equals(seenBehind));
    }

    private static void all() {
        for (Method method : NailStain.class.getMethods()) {
            if (method.getDeclaringClass() == NailStain.class) {
                DUES.yes(method.getName() + " was tried", TRIED.contains(method.getName()));
            }
        }
    }

    private static Bounds of(String name, long refusal, int... good) throws ReflectiveOperationException {
        return in(() -> Views.withShip(4), name, refusal, good);
    }

    private static Bounds in(Supplier<NailStain> ready, String name, long refusal, int... good)
            throws ReflectiveOperationException {
        TRIED.add(name);
        Bounds bounds = new Bounds(ready, name, refusal, good);
        bounds.takes(good);
        bounds.changes();
        return bounds;
    }

    /** A call with numbers that are taken, and one of them after the other put at its bounds. */
    private static final class Bounds {
        private final Supplier<NailStain> ready;
        private final Method method;
        private final long refusal;
        private final int[] good;
        private int at;

        private Bounds(Supplier<NailStain> ready, String name, long refusal, int... good)
                throws ReflectiveOperationException {
            this.ready = ready;
            Class<?>[] types = new Class<?>[good.length];
            java.util.Arrays.fill(types, int.class);
            this.method = NailStain.class.getMethod(name, types);
            this.refusal = refusal;
            this.good = good;
        }

        private Bounds next() {
            at++;
            return this;
        }

        private Bounds from(int least, int most) throws ReflectiveOperationException {
            return these(new int[] {least, most}, least - 1, most + 1, Integer.MIN_VALUE, Integer.MAX_VALUE);
        }

        private Bounds these(int[] taken, int... refused) throws ReflectiveOperationException {
            for (int number : taken) {
                takes(with(number));
            }
            for (int number : refused) {
                refuses(with(number));
            }
            return next();
        }

        private int[] with(int number) {
            int[] numbers = good.clone();
            numbers[at] = number;
            return numbers;
        }

        private void takes(int[] numbers) throws ReflectiveOperationException {
            long got = call(ready.get(), numbers);
            DUES.yes(words(numbers) + " is taken, but answered " + got, got != refusal);
        }

        /** What a call changes must be seen, or the views could not tell that a refused one changed nothing. */
        private void changes() throws ReflectiveOperationException {
            NailStain x = ready.get();
            NailStain y = ready.get();
            call(x, good);
            call(y, good);
            boolean same = Views.seen(x).equals(Views.seen(ready.get()))
                    && Views.seenBehind(y).equals(Views.seenBehind(ready.get()));
            DUES.due(words(good) + " left all as it was", same ? 1 : 0, CHANGING.contains(method.getName()) ? 0 : 1);
        }

        private void refuses(int[] numbers) throws ReflectiveOperationException {
            NailStain x = ready.get();
            DUES.due(words(numbers), call(x, numbers), refusal);
            List<Long> asItWas = Views.seen(ready.get());
            DUES.yes(words(numbers) + " changed nothing", Views.seen(x).equals(asItWas));
            NailStain y = ready.get();
            call(y, numbers);
            List<Long> asItWasBehind = Views.seenBehind(ready.get());
            DUES.yes(words(numbers) + " changed nothing behind", Views.seenBehind(y).equals(asItWasBehind));
        }

        private long call(NailStain x, int[] numbers) throws ReflectiveOperationException {
            Object[] boxed = new Object[numbers.length];
            for (int i = 0; i < numbers.length; i++) {
                boxed[i] = numbers[i];
            }
            Object answer = method.invoke(x, boxed);
            return answer instanceof Boolean ? (Boolean) answer ? 1 : 0 : ((Number) answer).longValue();
        }

        private String words(int[] numbers) {
            return method.getName() + java.util.Arrays.toString(numbers);
        }
    }
}
