/** Promises 25 to 35: sizes, oars, a body by phosphor, stories by signs. */
public final class FindsTest {
    private static final Dues DUES = new Dues();

    public static void main(String[] args) {
        size();
        sizeOfSixty();
        repairs();
        repairsByTheUsual();
        repairsOfSixty();
        thole();
        pair();
        phosphor();
        body();
        story();
        odds();
        next();
        DUES.end("FindsTest");
    }

    private static void size() {
        NailStain x = new NailStain();
        DUES.no("no ship", x.size(0, 0, 0, 1));
        x.build(3, 2);
        DUES.yes("size", x.size(2, 1, 1, 99));
        DUES.due("99", x.rivet(2, 1, 1, 3), 99);
        DUES.no("100", x.size(2, 1, 1, 100));
        DUES.no("-1", x.size(2, 1, 1, -1));
        DUES.no("station", x.size(3, 0, 0, 1));
        DUES.no("strake", x.size(0, 2, 0, 1));
        DUES.no("side", x.size(0, 0, 2, 1));
        DUES.due("it stays", x.rivet(2, 1, 1, 3), 99);
        DUES.yes("not told", x.size(2, 1, 1, 0));
        DUES.due("0", x.rivet(2, 1, 1, 3), 0);
        x.gone(0, 0, 0);
        DUES.yes("of one that is gone", x.size(0, 0, 0, 5));
        DUES.due("5", x.rivet(0, 0, 0, 3), 5);
    }

    private static NailStain withSixty() {
        NailStain x = new NailStain();
        x.build(24, 2);
        for (int i = 0; i < 60; i++) {
            DUES.yes("size " + i, x.size(i / 4, i / 2 % 2, i % 2, 1 + i % 3));
        }
        return x;
    }

    private static void sizeOfSixty() {
        NailStain x = withSixty();
        DUES.no("a 61st", x.size(20, 0, 0, 5));
        DUES.due("it has none", x.rivet(20, 0, 0, 3), 0);
        DUES.yes("one of the sixty anew", x.size(0, 0, 0, 9));
        DUES.yes("one of them not told", x.size(0, 0, 0, 0));
        DUES.yes("another one then", x.size(20, 0, 0, 5));
        DUES.no("not told again", x.size(0, 0, 0, 1));
    }

    private static void repairsOf(NailStain x, int strake, int much, long[] want) {
        for (int what = 0; what < 4; what++) {
            DUES.due("repairs(" + strake + ", " + much + ", " + what + ")", x.repairs(strake, much, what), want[what]);
        }
    }

    private static void repairs() {
        NailStain x = new NailStain();
        DUES.due("no ship", x.repairs(0, 0, 0), -1);
        x.build(4, 3);
        repairsOf(x, 2, 0, new long[] {0, 0, 1, 1});
        int[] sizes = {5, 5, 9, 9, 20, 21, 5, 9};
        for (int i = 0; i < 8; i++) {
            x.size(i / 2, i < 5 ? 0 : 1, i % 2, sizes[i]);
        }
        // Most have 5, as many 9: the least. By more than 3 odd are 9, 9, 20 of strake 0 and 21, 9 of strake 1:
        // 30 + 15 + 1 of 56.
        repairsOf(x, 0, 3, new long[] {3, 5, 23, 28});
        reckonByHand(x);
        // By more than 4 odd are 20 and 21: all but 6 of 56.
        repairsOf(x, 0, 4, new long[] {1, 5, 25, 28});
        // From 9, 20 would not be farther than 11.
        repairsOf(x, 0, 11, new long[] {1, 5, 25, 28});
        DUES.due("strake 3", x.repairs(3, 0, 0), -1);
        DUES.due("strake -1", x.repairs(-1, 0, 0), -1);
        DUES.due("much 100", x.repairs(0, 100, 0), -1);
        DUES.due("much -1", x.repairs(0, -1, 0), -1);
        DUES.due("what 4", x.repairs(0, 0, 4), -1);
        DUES.due("what -1", x.repairs(0, 0, -1), -1);
        repairsOf(x, 2, 0, new long[] {0, 0, 1, 1});
        repairsOf(x, 0, 99, new long[] {0, 5, 1, 1});
    }

    private static void repairsByTheUsual() {
        NailStain x = new NailStain();
        x.build(4, 1);
        x.size(0, 0, 0, 99);
        repairsOf(x, 0, 0, new long[] {0, 1, 1, 1});
        x.size(1, 0, 0, 2);
        repairsOf(x, 0, 96, new long[] {1, 2, 1, 1});
        x.size(1, 0, 1, 1);
        repairsOf(x, 0, 1, new long[] {1, 3, 1, 1});
        repairsOf(x, 0, 0, new long[] {2, 3, 1, 1});
        x.size(2, 0, 0, 2);
        repairsOf(x, 0, 0, new long[] {2, 4, 1, 1});
        x.size(1, 0, 0, 0);
        x.size(2, 0, 0, 0);
        x.size(2, 0, 1, 99);
        repairsOf(x, 0, 97, new long[] {1, 3, 1, 1});
    }

    private static void reckonByHand(NailStain x) {
        DUES.due("odd of strake 1", x.repairs(1, 3, 0), 2);
        DUES.due("of three", x.repairs(1, 3, 1), 3);
        // 5 odd of 8, three taken: two odd 10 * 3, three odd 10, of 56: 40 of 56.
        DUES.due("above", x.repairs(1, 3, 2), 5);
        DUES.due("below", x.repairs(1, 3, 3), 7);
    }

    private static void repairsOfSixty() {
        NailStain x = withSixty();
        // 20 each of 1, 2, 3: by more than 0, 40 are odd; of strake 0 there are 30.
        DUES.due("of thirty", x.repairs(0, 0, 1), 30);
        DUES.due("odd", x.repairs(0, 0, 0), 20);
        java.math.BigInteger above = java.math.BigInteger.ZERO;
        for (int i = 20; i <= 30; i++) {
            above = above.add(choices(40, i).multiply(choices(20, 30 - i)));
        }
        java.math.BigInteger below = choices(60, 30);
        java.math.BigInteger divisor = above.gcd(below);
        DUES.due("above", x.repairs(0, 0, 2), above.divide(divisor).longValueExact());
        DUES.due("below", x.repairs(0, 0, 3), below.divide(divisor).longValueExact());
    }

    static java.math.BigInteger choices(int of, int taken) {
        java.math.BigInteger ways = java.math.BigInteger.ONE;
        for (int i = 0; i < taken; i++) {
            ways = ways.multiply(java.math.BigInteger.valueOf(of - i)).divide(java.math.BigInteger.valueOf(i + 1));
        }
        return ways;
    }

    private static void oars(NailStain x, int least, int greatest, int known, int seen) {
        DUES.due("least", x.oars(0), least);
        DUES.due("greatest", x.oars(1), greatest);
        DUES.due("known", x.oars(2), known);
        DUES.due("seen", x.oars(3), seen);
    }

    private static void thole() {
        NailStain x = new NailStain();
        DUES.no("no ship", x.thole(0, 0, 1));
        DUES.due("no ship", x.oars(0), -1);
        x.build(5, 1);
        oars(x, 0, 5, 0, 0);
        DUES.yes("thole(4, 1, 1)", x.thole(4, 1, 1));
        oars(x, 0, 5, 1, 1);
        DUES.yes("thole(4, 0, 1)", x.thole(4, 0, 1));
        oars(x, 1, 5, 2, 2);
        DUES.yes("thole(3, 1, 0)", x.thole(3, 1, 0));
        oars(x, 1, 4, 3, 2);
        DUES.yes("thole(3, 0, 1)", x.thole(3, 0, 1));
        oars(x, 1, 4, 4, 3);
        DUES.yes("thole(4, 0, -1)", x.thole(4, 0, -1));
        oars(x, 0, 4, 3, 2);
        DUES.no("station", x.thole(5, 0, 0));
        DUES.no("station below", x.thole(-1, 0, 0));
        DUES.no("side", x.thole(0, 2, 0));
        DUES.no("side below", x.thole(0, -1, 0));
        DUES.no("seen 2", x.thole(0, 0, 2));
        DUES.no("seen -2", x.thole(0, 0, -2));
        DUES.due("oars(4)", x.oars(4), -1);
        DUES.due("oars(-1)", x.oars(-1), -1);
        x.cut(8);
        oars(x, 0, 5, 1, 1);
        DUES.yes("where it is cut away", x.thole(3, 1, 1));
        oars(x, 0, 5, 1, 1);
        x.cut(0);
        oars(x, 1, 5, 3, 3);
        x.build(24, 1);
        for (int f = 0; f < 24; f++) {
            x.thole(f, 0, 1);
            x.thole(f, 1, 1);
        }
        oars(x, 24, 24, 48, 48);
        x.thole(23, 1, 0);
        oars(x, 23, 23, 48, 47);
    }

    private static void pairIs(NailStain x, int station, long above, long below) {
        DUES.due("above of " + station, x.pair(station, 0), above);
        DUES.due("below of " + station, x.pair(station, 1), below);
    }

    private static void pair() {
        NailStain x = new NailStain();
        DUES.due("no ship", x.pair(0, 0), -1);
        x.build(5, 1);
        pairIs(x, 0, -2, -2);
        x.thole(0, 0, 0);
        pairIs(x, 0, 0, 1);
        pairIs(x, 1, 0, 1);
        x.thole(1, 0, 1);
        x.thole(2, 0, 1);
        x.thole(2, 1, 1);
        x.thole(3, 1, 1);
        x.thole(0, 1, 0);
        // 4 of 6 are seen.
        pairIs(x, 0, 0, 1);
        pairIs(x, 1, 2, 3);
        pairIs(x, 2, 1, 1);
        pairIs(x, 3, 2, 3);
        pairIs(x, 4, 4, 9);
        DUES.due("station 5", x.pair(5, 0), -1);
        DUES.due("station -1", x.pair(-1, 0), -1);
        DUES.due("what 2", x.pair(0, 2), -1);
        DUES.due("what -1", x.pair(0, -1), -1);
        x.cut(31);
        pairIs(x, 2, -2, -2);
        x.cut(4);
        pairIs(x, 2, 1, 4);
    }

    private static void phosphor() {
        NailStain x = new NailStain();
        DUES.yes("the last cell", x.phosphor(11, 5, 999));
        DUES.yes("the first cell", x.phosphor(0, 0, 998));
        DUES.no("column 12", x.phosphor(12, 0, 0));
        DUES.no("column -1", x.phosphor(-1, 0, 0));
        DUES.no("row 6", x.phosphor(0, 6, 0));
        DUES.no("row -1", x.phosphor(0, -1, 0));
        DUES.no("1000", x.phosphor(0, 0, 1000));
        DUES.no("-1", x.phosphor(0, 0, -1));
        DUES.due("all", x.body(12, 6, 2), 1997);
        x.phosphor(0, 0, 0);
        DUES.due("in place", x.body(12, 6, 2), 999);
    }

    private static void bodyIs(NailStain x, int w, int h, int... want) {
        for (int what = 0; what < 5; what++) {
            DUES.due("body(" + w + ", " + h + ", " + what + ")", x.body(w, h, what), want[what]);
        }
    }

    private static void body() {
        NailStain x = new NailStain();
        bodyIs(x, 5, 2, 0, 0, 0, 40, 40);
        x.phosphor(11, 0, 10);
        x.phosphor(0, 1, 10);
        bodyIs(x, 1, 1, 11, 0, 10, 2, 72);
        bodyIs(x, 1, 2, 0, 0, 10, 3, 60);
        bodyIs(x, 12, 2, 0, 0, 20, 1, 5);
        bodyIs(x, 12, 1, 0, 0, 10, 2, 6);
        bodyIs(x, 2, 6, 0, 0, 10, 2, 11);
        x.phosphor(5, 5, 11);
        x.phosphor(6, 4, 3);
        bodyIs(x, 2, 2, 5, 4, 14, 1, 55);
        bodyIs(x, 3, 1, 3, 5, 11, 3, 60);
        DUES.due("w 0", x.body(0, 1, 0), -1);
        DUES.due("w 13", x.body(13, 1, 0), -1);
        DUES.due("h 0", x.body(1, 0, 0), -1);
        DUES.due("h 7", x.body(1, 7, 0), -1);
        DUES.due("what 5", x.body(1, 1, 5), -1);
        DUES.due("what -1", x.body(1, 1, -1), -1);
    }

    private static void story() {
        NailStain x = new NailStain();
        DUES.no("story 6", x.story(6, 0, 0));
        DUES.no("story -1", x.story(-1, 0, 0));
        DUES.no("sign 6", x.story(0, 6, 0));
        DUES.no("sign -1", x.story(0, -1, 0));
        DUES.no("1001", x.story(0, 0, 1001));
        DUES.no("-1", x.story(0, 0, -1));
        DUES.due("none is told", x.count(9), 0);
        DUES.yes("story(5, 5, 0)", x.story(5, 5, 0));
        DUES.due("one is told", x.count(9), 1);
        DUES.yes("story(5, 5, 1000)", x.story(5, 5, 1000));
        DUES.due("the same one", x.count(9), 1);
        DUES.no("sign(6, 0)", x.sign(6, 0));
        DUES.no("sign(-1, 0)", x.sign(-1, 0));
        DUES.no("sign(0, 2)", x.sign(0, 2));
        DUES.no("sign(0, -2)", x.sign(0, -2));
        DUES.yes("sign(5, 1)", x.sign(5, 1));
        DUES.due("it shows", x.odds(5), 1000);
        DUES.yes("sign(5, 0)", x.sign(5, 0));
        DUES.due("it does not", x.odds(5), 0);
        DUES.yes("sign(5, -1)", x.sign(5, -1));
        DUES.due("not known", x.odds(5), 1);
        x.build(3, 1);
        DUES.due("stories outlast a ship", x.count(9), 1);
    }

    private static void odds() {
        NailStain x = new NailStain();
        DUES.due("none told", x.odds(-1), 0);
        DUES.due("not told", x.odds(0), -1);
        DUES.due("story 6", x.odds(6), -1);
        DUES.due("story -2", x.odds(-2), -1);
        for (int k = 0; k < 6; k++) {
            for (int i = 0; i < 6; i++) {
                x.story(k, i, 1000);
                x.sign(i, 1);
            }
        }
        DUES.due("of one", x.odds(3), 1000000000000000000L);
        DUES.due("of the first", x.odds(0), 1000000000000000000L);
        DUES.due("of all", x.odds(-1), 6000000000000000000L);
        x.story(3, 2, 700);
        DUES.due("of one then", x.odds(3), 700000000000000000L);
        x.sign(2, 0);
        DUES.due("of one that would show less", x.odds(3), 300000000000000000L);
        DUES.due("of all then", x.odds(-1), 300000000000000000L);
    }

    private static void next() {
        NailStain x = new NailStain();
        DUES.due("no story", x.next(0), -1);
        x.story(0, 4, 500);
        DUES.due("of one story the lowest", x.next(0), 0);
        DUES.due("by nothing", x.next(1), 0);
        x.story(1, 3, 400);
        x.story(2, 3, 100);
        // Sign 3: 400 + 100 + 300; sign 4: 500 + 500 + 0.
        DUES.due("the sign", x.next(0), 4);
        DUES.due("by how much", x.next(1), 1000);
        x.story(2, 3, 600);
        // Sign 3: 400 + 600 + 200.
        DUES.due("another sign", x.next(0), 3);
        DUES.due("by more", x.next(1), 1200);
        x.story(1, 4, 0);
        x.story(2, 4, 100);
        x.story(1, 2, 600);
        // Sign 2: 600 + 600; like sign 3, and lower.
        DUES.due("of like ones the lowest", x.next(0), 2);
        x.sign(2, 1);
        // Only story 1 would show it: no pair is left.
        DUES.due("no pair", x.next(0), 0);
        DUES.due("no pair parts", x.next(1), 0);
        x.sign(2, 0);
        DUES.due("a known one is not asked", x.next(0), 3);
        DUES.due("what 2", x.next(2), -1);
        DUES.due("what -1", x.next(-1), -1);
        for (int i = 0; i < 6; i++) {
            x.sign(i, 0);
        }
        DUES.due("all are known", x.next(0), -1);
        x.sign(5, -1);
        DUES.due("the one that is not", x.next(0), 5);
    }
}
