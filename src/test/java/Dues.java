/** Counts the answers that are not as due, and feeds texts to the tape. */
final class Dues {
    private int asked;
    private int wrong;

    void due(String call, long got, long want) {
        asked++;
        if (got != want) {
            wrong++;
            System.out.println(call + " answered " + got + ", due is " + want);
        }
    }

    int asked() {
        return asked;
    }

    int wrong() {
        return wrong;
    }

    void yes(String call, boolean got) {
        due(call, got ? 1 : 0, 1);
    }

    void no(String call, boolean got) {
        due(call, got ? 1 : 0, 0);
    }

    void end(String name) {
        System.out.println(name + ": " + (asked - wrong) + " of " + asked + " answers are as due");
        if (wrong != 0 || asked == 0) {
            System.exit(1);
        }
    }

    /** Puts a text on the tape, blanks behind it up to a full feed. */
    static int put(NailStain x, String text) {
        int[] five = new int[5];
        for (int from = 0; from < text.length(); from += 20) {
            for (int i = 0; i < 5; i++) {
                five[i] = 0;
                for (int j = 0; j < 4; j++) {
                    int at = from + 4 * i + j;
                    five[i] = five[i] << 8 | (at < text.length() ? text.charAt(at) & 255 : ' ');
                }
            }
            x.feed(five[0], five[1], five[2], five[3], five[4]);
        }
        return text.length();
    }

    static int rule(NailStain x, String text) {
        return x.rule(put(x, text));
    }

    static int sand(NailStain x, String text) {
        return x.sand(put(x, text));
    }

    static int stain(NailStain x, String text) {
        return x.stain(put(x, text));
    }

    /** A ship of some stations by one strake whose both sides lie at these y. */
    static NailStain shipOf(int... ys) {
        NailStain x = new NailStain();
        x.build(ys.length, 1);
        strake(x, 0, ys);
        return x;
    }

    /** X some times on, as the terms tell it. */
    static int chance(int x, int times) {
        long chance = x;
        for (int i = 0; i < times; i++) {
            chance = (25173 * chance + 13849) % 65536;
        }
        return (int) chance;
    }

    /** The least seed whose first luck is this. */
    static int seedOf(int luck) {
        int seed = 0;
        while (chance(seed, 1) % 1000 != luck) {
            seed++;
        }
        return seed;
    }

    static void strake(NailStain x, int strake, int... ys) {
        for (int f = 0; f < ys.length; f++) {
            x.lies(f, strake, 0, ys[f], 0);
            x.lies(f, strake, 1, ys[f], 0);
        }
    }
}
