import java.lang.reflect.InvocationTargetException;
import java.lang.reflect.Method;
import java.util.ArrayList;
import java.util.Comparator;
import java.util.List;
import java.util.Random;

/** Long random runs, each call put to NailStain and to SlowStain: their answers must be the same. */
public final class RandomRunsTest {
    private static final int RUNS = 400;
    private static final int CALLS = 512;
    private static final int[] ODD_NUMBERS = {Integer.MIN_VALUE, Integer.MAX_VALUE, -1, -2, 0, 1, 2, 24, 61, 1 << 24,
        -10000, 65536, 2000000001, 1 << 30};

    private final Random random;
    private final NailStain fast = new NailStain();
    private final SlowStain slow = new SlowStain();
    private final List<String> told = new ArrayList<>();
    private final List<Method> face;
    private int stations;
    private int strakes = 1;
    private boolean same = true;
    private int calls;

    private RandomRunsTest(long seed, List<Method> face) {
        this.random = new Random(seed);
        this.face = face;
    }

    public static void main(String[] args) throws ReflectiveOperationException {
        List<Method> face = new ArrayList<>();
        for (Method method : NailStain.class.getMethods()) {
            if (method.getDeclaringClass() == NailStain.class) {
                face.add(method);
            }
        }
        face.sort(Comparator.comparing(Method::getName));
        int wrong = 0;
        for (int seed = 0; seed < RUNS && wrong < 3; seed++) {
            wrong += new RandomRunsTest(seed, face).play() ? 0 : 1;
        }
        System.out.println("RandomRunsTest: " + RUNS + " runs, " + wrong + " of them wrong");
        if (wrong != 0) {
            System.exit(1);
        }
    }

    private boolean play() throws ReflectiveOperationException {
        boolean big = random.nextInt(8) == 0;
        begin(big);
        while (calls < CALLS && same) {
            int kind = random.nextInt(100);
            if (kind < 8) {
                readText();
            } else if (kind < 12) {
                readRow();
            } else if (kind < 13) {
                begin(big);
            } else if (kind < 15) {
                smooth();
            } else {
                Method method = face.get(random.nextInt(face.size()));
                if (!method.getName().equals("build") && !method.getName().equals("feed")) {
                    call(method.getName(), arguments(method));
                }
            }
        }
        return same;
    }

    private void begin(boolean big) throws ReflectiveOperationException {
        int n = random.nextInt(20) == 0 ? 2 : 3 + random.nextInt(big ? 22 : 8);
        int k = random.nextInt(20) == 0 ? 9 : 1 + random.nextInt(big ? 8 : 3);
        if (call("build", n, k) > 0) {
            stations = n;
            strakes = k;
        }
    }

    /** Lays a strake so that its sides are near enough to one another for a line. */
    private void smooth() throws ReflectiveOperationException {
        int strake = random.nextInt(strakes);
        int y = random.nextInt(200) - 40;
        int wide = 1 + random.nextInt(random.nextInt(4) == 0 ? 40 : 6);
        for (int f = 0; f < stations; f++) {
            y += random.nextInt(31) - 15;
            call("lies", f, strake, 0, y, random.nextInt(50));
            call("lies", f, strake, 1, y + random.nextInt(wide), random.nextInt(50));
        }
    }

    private void readText() throws ReflectiveOperationException {
        String[] starts = {"yz", "abg", "e"};
        String[] names = {"rule", "sand", "stain"};
        int which = random.nextInt(3);
        String text = new TextMaker(random).text(starts[which]);
        put(text);
        int n = random.nextInt(30) == 0 ? random.nextInt(220) : text.length();
        call(names[which], n);
    }

    private void put(String text) throws ReflectiveOperationException {
        for (int from = 0; from < text.length(); from += 20) {
            int[] five = new int[5];
            for (int i = 0; i < 20; i++) {
                int c = from + i < text.length() ? text.charAt(from + i) : ' ';
                five[i / 4] = five[i / 4] << 8 | c;
            }
            call("feed", five[0], five[1], five[2], five[3], five[4]);
        }
    }

    private void readRow() throws ReflectiveOperationException {
        int strake = random.nextInt(strakes);
        int out = random.nextInt(6);
        int n = Math.max(0, stations + (random.nextInt(4) == 0 ? random.nextInt(7) - 3 : 0));
        int wrong = random.nextInt(3) == 0 ? random.nextInt(24) : -1;
        for (int from = 0; from < n; from += 5) {
            int[] five = new int[5];
            for (int i = 0; i < 5; i++) {
                five[i] = (int) slow.batten(strake, out, from + i) + (from + i == wrong ? 1 : 0);
            }
            call("feed", five[0], five[1], five[2], five[3], five[4]);
        }
        call("check", strake, out, n);
    }

    private int[] arguments(Method method) {
        int[] most = ranges(method.getName());
        int[] arguments = new int[method.getParameterCount()];
        for (int i = 0; i < arguments.length; i++) {
            int least = most[2 * i];
            arguments[i] = least + random.nextInt(most[2 * i + 1] - least + 1);
            if (random.nextInt(60) == 0) {
                arguments[i] = ODD_NUMBERS[random.nextInt(ODD_NUMBERS.length)];
            }
        }
        return arguments;
    }

    /** The least and the greatest of each argument, a little beyond what stands, so that some are refused. */
    private int[] ranges(String name) {
        int n = Math.max(2, stations - (random.nextInt(12) == 0 ? 0 : 1));
        int k = strakes - (random.nextInt(12) == 0 ? 0 : 1);
        int out = random.nextInt(8) == 0 ? 41 : 6;
        switch (name) {
            case "pitch": return new int[] {0, random.nextBoolean() ? 1001 : 20};
            case "seed": return new int[] {0, 65535};
            case "rule": case "sand": case "stain": return new int[] {0, 8};
            case "mound": return new int[] {0, 24, 0, 1000};
            case "bury": return new int[] {0, 4};
            case "lies": return new int[] {0, n, 0, k, 0, 1, -20, 90, -3000, 3000};
            case "gone": return new int[] {0, n, 0, k, 0, 1};
            case "rivet": return new int[] {0, n, 0, k, 0, 1, -1, 5};
            case "cut": return random.nextInt(3) == 0 ? new int[] {0, 0} : new int[] {0, (1 << n) - 1 & 0x249249};
            case "drawing": return new int[] {0, 2101};
            case "mark": return new int[] {0, 3, 0, n, 0, k, 0, 1, -60, 60, -60, 60};
            case "draw": return new int[] {0, 3, -20, 20, -20, 20, 0, 1000};
            case "marked": return new int[] {0, 3, 0, n, 0, k, 0, 1, 0, 1};
            case "joined": return new int[] {0, 3, 0, 3, 0, 4};
            case "off": return new int[] {0, 3, 0, 3, 0, 100};
            case "slipped": return new int[] {0, 3, 0, 3, 0, 3, 0, n, 0, k, 0, 1};
            case "span": return new int[] {0, k, 0, n, 0, out, 0, 1};
            case "batten": return new int[] {0, k, 0, out, -1, n};
            case "lost": return new int[] {0, k, 0, out, 0, 1};
            case "size": return new int[] {0, n, 0, k, 0, 1, 0, random.nextBoolean() ? 6 : 99};
            case "repairs": return new int[] {0, k, 0, random.nextBoolean() ? 4 : 99, 0, 3};
            case "thole": return new int[] {0, n, 0, 1, -1, 1};
            case "oars": return new int[] {-1, 4};
            case "pair": return new int[] {0, n, 0, 1};
            case "phosphor": return new int[] {0, 12, 0, 6, 0, random.nextBoolean() ? 2 : 1000};
            case "body": return new int[] {0, 13, 0, 7, -1, 5};
            case "story": return new int[] {0, 6, 0, 6, 0, random.nextBoolean() ? 4 : 1001};
            case "sign": return new int[] {0, 6, -1, 1};
            case "odds": return new int[] {-1, 6};
            case "next": return new int[] {-1, 2};
            case "area": return new int[] {0, n, 0, 201, 0, out, 0, k};
            case "volume": return new int[] {0, 201, 0, out, 0, k};
            case "depth": return new int[] {0, 201, 0, out, 0, random.nextBoolean() ? 90000000 : 3000000};
            case "pace": return new int[] {0, 1001};
            case "length": return new int[] {0, k, 0, out};
            case "joints": return new int[] {0, k, 0, out, 1, random.nextInt(3) == 0 ? 1000 : 90, -1, 4};
            case "lasts": return new int[] {0, random.nextBoolean() ? 10000 : 60, 0, 101};
            case "check": return new int[] {0, k, 0, out, 0, 6};
            default: return new int[] {-1, 14};
        }
    }

    private long call(String name, int... arguments) throws ReflectiveOperationException {
        Class<?>[] types = new Class<?>[arguments.length];
        Object[] boxed = new Object[arguments.length];
        StringBuilder words = new StringBuilder(name).append('(');
        for (int i = 0; i < arguments.length; i++) {
            types[i] = int.class;
            boxed[i] = arguments[i];
            words.append(i == 0 ? "" : ", ").append(arguments[i]);
        }
        words.append(')');
        long want = number(SlowStain.class.getMethod(name, types).invoke(slow, boxed));
        long got;
        try {
            got = number(NailStain.class.getMethod(name, types).invoke(fast, boxed));
        } catch (InvocationTargetException thrown) {
            System.out.println(words + " threw " + thrown.getCause());
            got = ~want;
        }
        calls++;
        told.add(words + " " + got);
        if (got != want && same) {
            same = false;
            System.out.println("call " + calls + ": " + words + " answered " + got + ", due is " + want);
            told.subList(Math.max(0, told.size() - 30), told.size()).forEach(System.out::println);
        }
        return got;
    }

    private static long number(Object answer) {
        return answer instanceof Boolean ? (Boolean) answer ? 1 : 0 : ((Number) answer).longValue();
    }

    /** Texts by the grammar, some of them spoilt. */
    private static final class TextMaker {
        private final Random random;

        private TextMaker(Random random) {
            this.random = random;
        }

        private String text(String starts) {
            StringBuilder text = new StringBuilder();
            int clauses = random.nextInt(12) == 0 ? 16 : 1 + random.nextInt(5);
            for (int i = 0; i < clauses; i++) {
                text.append(i == 0 ? "" : ";").append(pick(starts));
                int depth = clauses > 9 ? 0 : random.nextInt(4);
                text.append(sum(depth)).append('(').append(any(depth)).append(')');
            }
            if (random.nextInt(3) == 0) {
                int at = random.nextInt(text.length());
                char odd = pick("yzabgefsdnckxmtvw0123456789[]()!&|<>=+-*/%; AZ" + (char) 233);
                if (random.nextBoolean()) {
                    text.setCharAt(at, odd);
                } else {
                    text.insert(at, odd);
                }
            }
            if (random.nextInt(10) == 0) {
                text.insert(random.nextInt(text.length()), String.valueOf(pick("[(!")).repeat(1 + random.nextInt(7)));
            }
            text.setLength(Math.min(text.length(), random.nextInt(9) == 0 ? 1 + random.nextInt(200) : 200));
            return text.toString();
        }

        private char pick(String signs) {
            return signs.charAt(random.nextInt(signs.length()));
        }

        private String sum(int depth) {
            String e = product(depth);
            for (int i = random.nextInt(3); i > 1; i--) {
                e += pick("+-") + product(depth);
            }
            return e;
        }

        private String product(int depth) {
            String e = factor(depth);
            for (int i = random.nextInt(3); i > 1; i--) {
                e += pick("*/%") + factor(depth);
            }
            return e;
        }

        private String factor(int depth) {
            int kind = random.nextInt(5);
            if (kind == 0 && depth > 0) {
                return "[" + sum(depth - 1) + "]";
            }
            if (kind < 3) {
                return String.valueOf(pick("fsdnckyzmxtvw"));
            }
            return String.valueOf(random.nextInt(random.nextInt(6) == 0 ? 120000 : 40));
        }

        private String any(int depth) {
            String c = all(depth);
            for (int i = random.nextInt(4); i > 2; i--) {
                c += "|" + all(depth);
            }
            return c;
        }

        private String all(int depth) {
            String c = piece(depth);
            for (int i = random.nextInt(4); i > 2; i--) {
                c += "&" + piece(depth);
            }
            return c;
        }

        private String piece(int depth) {
            int kind = random.nextInt(6);
            if (kind == 0 && depth > 0) {
                return "!" + piece(depth - 1);
            }
            if (kind == 1 && depth > 0) {
                return "(" + any(depth - 1) + ")";
            }
            return random.nextInt(4) == 0 ? "1=1" : sum(depth) + pick("<>=") + sum(depth);
        }
    }
}
