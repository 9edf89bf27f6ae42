/** Promises 36 to 44: area, volume, depth, pace, planks, joints, how long a stain lasts, check and count. */
public final class HullTest {
    private static final Dues DUES = new Dues();

    public static void main(String[] args) {
        area();
        volume();
        depth();
        pace();
        length();
        joints();
        jointsInTurn();
        jointsNotToBe();
        jointsNotTold();
        lasts();
        lastsByLetters();
        check();
        count();
        DUES.end("HullTest");
    }

    private static NailStain threeStrakes() {
        NailStain x = new NailStain();
        x.build(3, 3);
        Dues.strake(x, 0, 1, 2, -4);
        Dues.strake(x, 1, 10, 20, 5);
        Dues.strake(x, 2, 100, -1, 7);
        return x;
    }

    private static void area() {
        DUES.due("no ship", new NailStain().area(0, 1, 0, 0), -1);
        NailStain x = threeStrakes();
        DUES.due("to the keel", x.area(0, 200, 0, 0), 0);
        DUES.due("to strake 1", x.area(0, 200, 0, 1), 11 * 200);
        DUES.due("to strake 2", x.area(0, 1, 0, 2), 11 + 110);
        DUES.due("below 0 counts 0", x.area(1, 3, 0, 2), (22 + 20) * 3);
        DUES.due("below 0 counts 0 at the keel", x.area(2, 3, 0, 1), 15);
        DUES.due("by the batten", x.area(0, 1, 2, 0), 0);
        DUES.due("w 3", x.area(0, 1, 0, 3), -1);
        DUES.due("w -1", x.area(0, 1, 0, -1), -1);
        DUES.due("station 3", x.area(3, 1, 0, 1), -1);
        DUES.due("station -1", x.area(-1, 1, 0, 1), -1);
        DUES.due("height 0", x.area(0, 0, 0, 1), -1);
        DUES.due("height 201", x.area(0, 201, 0, 1), -1);
        DUES.due("out 41", x.area(0, 1, 41, 1), -1);
        DUES.due("out -1", x.area(0, 1, -1, 1), -1);
        x.lies(0, 2, 0, 0, 0);
        DUES.due("a strake above is not told", x.area(0, 1, 0, 1), -1);
    }

    private static void volume() {
        DUES.due("no ship", new NailStain().volume(1, 0, 0), -1);
        NailStain x = threeStrakes();
        x.pitch(1);
        // Areas to strake 1: 11, 22, 5.
        DUES.due("to strake 1", x.volume(1, 0, 1), (33 + 27) / 2);
        // Areas to strake 2: 121, 42, 17.
        DUES.due("rounded down", x.volume(1, 0, 2), (163 + 59) / 2);
        x.lies(2, 2, 0, 8, 0);
        x.lies(2, 2, 1, 8, 0);
        DUES.due("rounded down once", x.volume(1, 0, 2), (163 + 60) / 2);
        x.pitch(3);
        DUES.due("times pitch ahead of that", x.volume(1, 0, 2), 223 * 3 / 2);
        DUES.due("to the keel", x.volume(1, 0, 0), 0);
        DUES.due("w 3", x.volume(1, 0, 3), -1);
        DUES.due("w -1", x.volume(1, 0, -1), -1);
        DUES.due("height 0", x.volume(0, 0, 1), -1);
        DUES.due("height 201", x.volume(201, 0, 1), -1);
        DUES.due("out 41", x.volume(1, 41, 1), -1);
        NailStain big = new NailStain();
        Dues.rule(big, "y3000(1=1)");
        big.build(24, 8);
        big.pitch(1000);
        DUES.due("beyond 32 bits", big.volume(200, 0, 7), 7L * 6000 * 200 * 23 * 1000);
    }

    private static void depth() {
        DUES.due("no ship", new NailStain().depth(1, 0, 0), -1);
        NailStain x = threeStrakes();
        x.pitch(1);
        DUES.due("weight 0", x.depth(1, 0, 0), 0);
        DUES.due("weight 1", x.depth(1, 0, 1), 1);
        DUES.due("weight 30", x.depth(1, 0, 30), 1);
        DUES.due("weight 31", x.depth(1, 0, 31), 2);
        DUES.due("weight 111", x.depth(1, 0, 111), 2);
        DUES.due("weight 112", x.depth(1, 0, 112), -2);
        DUES.due("the greatest weight", x.depth(1, 0, 2000000000), -2);
        DUES.due("beyond it", x.depth(1, 0, 2000000001), -1);
        DUES.due("weight -1", x.depth(1, 0, -1), -1);
        DUES.due("height 0", x.depth(0, 0, 1), -1);
        DUES.due("out 41", x.depth(1, 41, 1), -1);
        x.cut(7);
        DUES.due("not told", x.depth(1, 0, 0), -1);
    }

    private static void pace() {
        NailStain x = new NailStain();
        DUES.due("no ship", x.pace(1), -1);
        x.build(3, 1);
        DUES.due("pace(0)", x.pace(0), -1);
        DUES.due("pace(1001)", x.pace(1001), -1);
        DUES.due("root of 200", x.pace(1), 14);
        DUES.due("root of 400", x.pace(2), 20);
        x.pitch(1);
        DUES.due("root of 2", x.pace(1), 1);
        DUES.due("root of 2000", x.pace(1000), 44);
        x.build(24, 1);
        x.pitch(1000);
        DUES.due("root of 23000000", x.pace(1000), 4795);
    }

    private static void length() {
        DUES.due("no ship", new NailStain().length(0, 0), -1);
        NailStain x = Dues.shipOf(0, 3, 3, -1);
        x.pitch(4);
        DUES.due("5, 4, and 5 by the root of 32", x.length(0, 0), 14);
        DUES.due("strake 1", x.length(1, 0), -1);
        DUES.due("strake -1", x.length(-1, 0), -1);
        DUES.due("out 41", x.length(0, 41), -1);
        DUES.due("straight, 3 more for each", x.length(0, 29), 15);
        x.cut(15);
        DUES.due("not told", x.length(0, 0), -1);
        NailStain far = Dues.shipOf(3000, -3000, 3000);
        far.pitch(1000);
        DUES.due("far", far.length(0, 0), 2 * 6082);
    }

    private static void jointsAre(NailStain x, int strake, int most, int... want) {
        String call = "joints of " + strake + " for " + most;
        DUES.due(call, x.joints(strake, 0, most, -1), want.length);
        for (int i = 0; i < want.length; i++) {
            DUES.due(call + " at " + i, x.joints(strake, 0, most, i), want[i]);
        }
        DUES.due(call + " beyond", x.joints(strake, 0, most, want.length), -3);
    }

    private static NailStain level(int stations, int strakes) {
        NailStain x = new NailStain();
        x.build(stations, strakes);
        x.pitch(10);
        return x;
    }

    private static void joints() {
        NailStain x = level(9, 1);
        jointsAre(x, 0, 80);
        jointsAre(x, 0, 79, 1);
        jointsAre(x, 0, 70, 1);
        jointsAre(x, 0, 69, 2);
        jointsAre(x, 0, 40, 4);
        jointsAre(x, 0, 39, 2, 5);
        jointsAre(x, 0, 10, 1, 2, 3, 4, 5, 6, 7);
        jointsAre(x, 0, 100000);
        x.pitch(1);
        jointsAre(x, 0, 1, 1, 2, 3, 4, 5, 6, 7);
        x.pitch(10);
        DUES.due("most 9", x.joints(0, 0, 9, -1), -2);
        DUES.due("most 9, joint 0", x.joints(0, 0, 9, 0), -2);
        DUES.due("most 0", x.joints(0, 0, 0, -1), -3);
        DUES.due("most 100001", x.joints(0, 0, 100001, -1), -3);
        DUES.due("what -2", x.joints(0, 0, 80, -2), -3);
        DUES.due("strake 1", x.joints(1, 0, 80, -1), -3);
        DUES.due("strake -1", x.joints(-1, 0, 80, -1), -3);
        DUES.due("out 41", x.joints(0, 41, 80, -1), -3);
        DUES.due("no ship", new NailStain().joints(0, 0, 80, -1), -3);
        NailStain bent = Dues.shipOf(0, 0, 30, 30, 30);
        bent.pitch(40);
        jointsAre(bent, 0, 90, 2);
        jointsAre(bent, 0, 130, 1);
        jointsAre(bent, 0, 89, 1, 2);
        DUES.due("the first plank is too long", Dues.shipOf(0, 900, 900, 900).joints(0, 0, 300, -1), -2);
    }

    private static void jointsInTurn() {
        NailStain x = level(13, 4);
        jointsAre(x, 0, 60, 6);
        jointsAre(x, 1, 60, 2, 8);
        jointsAre(x, 2, 60, 6);
        jointsAre(x, 3, 60, 2, 8);
        jointsAre(x, 0, 50, 2, 7);
        jointsAre(x, 1, 50, 4, 9);
        jointsAre(x, 2, 50, 2, 7);
    }

    private static void jointsNotToBe() {
        NailStain x = level(5, 3);
        jointsAre(x, 0, 20, 2);
        DUES.due("barred by the one below", x.joints(1, 0, 20, -1), -2);
        DUES.due("one below can't be", x.joints(2, 0, 20, 0), -2);
        jointsAre(x, 0, 30, 1);
        jointsAre(x, 1, 30, 3);
        jointsAre(x, 2, 30, 1);
        x.lies(0, 1, 0, 100, 0);
        jointsAre(x, 0, 30, 1);
        DUES.due("not told", x.joints(1, 0, 30, -1), -3);
        DUES.due("one below is not told", x.joints(2, 0, 30, -1), -3);
    }

    /** A call that is refused is so wherever its strake's line or one below is not told: -2 is for the others. */
    private static void jointsNotTold() {
        NailStain x = level(5, 4);
        x.lies(0, 2, 0, 61, 0);
        DUES.due("the keel can't be", x.joints(0, 0, 9, -1), -2);
        DUES.due("one that is told can't be", x.joints(1, 0, 9, 0), -2);
        DUES.due("not told, and the keel can't be", x.joints(2, 0, 9, -1), -3);
        DUES.due("one below is not told, and the keel can't be", x.joints(3, 0, 9, 0), -3);
        DUES.due("barred by the one below", x.joints(1, 0, 20, -1), -2);
        DUES.due("not told, and one below is barred", x.joints(2, 0, 20, -1), -3);
        x.lies(0, 2, 0, 60, 0);
        DUES.due("told, and the keel can't be", x.joints(2, 0, 9, -1), -2);
        DUES.due("no such joint, and the keel can't be", x.joints(2, 0, 9, 30), -2);
        DUES.due("no such out, and the keel can't be", x.joints(2, 41, 9, -1), -3);
        DUES.due("no such what, and the keel can't be", x.joints(2, 0, 9, -2), -3);
        DUES.due("farther out it is not told", x.joints(2, 1, 9, -1), -3);
        DUES.due("and told again", x.joints(3, 0, 9, -1), -2);
        x.gone(0, 2, 0);
        jointsAre(x, 2, 30, 1);
        for (int f = 0; f < 5; f++) {
            x.gone(f, 3, 0);
            x.gone(f, 3, 1);
        }
        DUES.due("nothing is seen, and the keel can't be", x.joints(3, 0, 9, -1), -3);
    }

    private static void lasts() {
        NailStain x = new NailStain();
        DUES.due("v 0", x.lasts(0, 0), -1);
        DUES.due("v 10001", x.lasts(10001, 0), -1);
        DUES.due("wet -1", x.lasts(1, -1), -1);
        DUES.due("wet 101", x.lasts(1, 101), -1);
        DUES.due("no stain", x.lasts(1, 100), -2);
        Dues.stain(x, "e5(1=1)");
        DUES.due("to 0", x.lasts(10000, 100), 2000);
        DUES.due("to below 0", x.lasts(9, 0), 2);
        DUES.due("at once", x.lasts(1, 0), 1);
        Dues.stain(x, "e4(1=1)");
        DUES.due("2000 years", x.lasts(8000, 0), 2000);
        DUES.due("longer", x.lasts(8001, 0), -2);
        Dues.stain(x, "e5000(1=1)");
        DUES.due("1000 at most", x.lasts(10000, 0), 10);
        Dues.stain(x, "e0-5000(1=1)");
        DUES.due("0 at least", x.lasts(1, 0), -2);
    }

    private static void lastsByLetters() {
        NailStain x = new NailStain();
        Dues.stain(x, "et(1=1)");
        DUES.due("0, 1, 2, 3", x.lasts(6, 0), 4);
        Dues.stain(x, "ev/2+1(1=1)");
        DUES.due("8, 3, 1", x.lasts(8, 0), 3);
        Dues.stain(x, "ew(1=1)");
        DUES.due("by how wet", x.lasts(100, 50), 2);
        Dues.stain(x, "e1+f+s+d+c+y+z+m+x(1=1)");
        x.build(4, 2);
        DUES.due("others are 0", x.lasts(7, 0), 7);
        Dues.stain(x, "en*10+k(1=1)");
        DUES.due("n and k of the ship", x.lasts(84, 0), 2);
        DUES.due("n and k of the ship, one more", x.lasts(85, 0), 3);
        Dues.stain(x, "e1/t(1=1);e9(1=1)");
        DUES.due("0 in the first year", x.lasts(1, 0), 2);
        Dues.stain(x, "e1(1/t=5);e7(t=1)");
        DUES.due("7 in the second year", x.lasts(7, 0), 2);
    }

    private static void check() {
        NailStain x = Dues.shipOf(1, -2, 3);
        DUES.due("of an empty tape", x.check(0, 0, 1), -2);
        DUES.due("none asked", x.check(0, 0, 0), 0);
        x.feed(1, -2, 3, 0, 0);
        DUES.due("n -1", x.check(0, 0, -1), -2);
        DUES.due("n 6", x.check(0, 0, 6), -2);
        DUES.due("n far too great", x.check(0, 0, 1 << 30), -2);
        DUES.due("strake 1", x.check(1, 0, 3), -2);
        DUES.due("out 41", x.check(0, 41, 3), -2);
        DUES.due("the tape stays", x.count(4), 20);
        DUES.due("right", x.check(0, 0, 3), -1);
        DUES.due("the tape is empty", x.count(4), 0);
        x.feed(1, -2, 3, 0, 0);
        DUES.due("some are lacking", x.check(0, 0, 2), 2);
        x.feed(1, -2, 3, 0, 0);
        DUES.due("one too many", x.check(0, 0, 4), 3);
        x.feed(1, -3, 3, 0, 0);
        DUES.due("wrong", x.check(0, 0, 3), 1);
        x.feed(1 << 24 | 1, -2, 3, 0, 0);
        DUES.due("wrong by a high byte", x.check(0, 0, 3), 0);
        x.feed(1, -2, 3, 0, 0);
        DUES.due("none asked of five", x.check(0, 0, 0), 0);
        DUES.due("the tape is empty then", x.count(4), 0);
        x.cut(7);
        x.feed(1, -2, 3, 0, 0);
        DUES.due("not told", x.check(0, 0, 3), -2);
        DUES.due("the tape stays again", x.count(4), 20);
        DUES.due("no ship", new NailStain().check(0, 0, 0), -2);
    }

    private static void count() {
        NailStain x = new NailStain();
        Dues.rule(x, "y1(1=1)");
        Dues.sand(x, "a1(1=1);b1(1=1)");
        Dues.stain(x, "e1(1=1);e1(1=1);e1(1=1)");
        x.build(4, 3);
        x.gone(0, 0, 0);
        x.feed(0, 0, 0, 0, 0);
        x.drawing(1);
        x.drawing(1);
        x.mark(1, 0, 0, 0, 0, 0);
        x.story(4, 4, 4);
        x.seed(9);
        long[] want = {-1, 4, 3, 23, 9, 20, 1, 2, 3, 2, 1, 0, 1, -1, -1, -1};
        for (int i = 0; i < want.length; i++) {
            DUES.due("count(" + (i - 1) + ")", x.count(i - 1), want[i]);
        }
        DUES.due("count of the greatest", x.count(Integer.MAX_VALUE), -1);
        DUES.due("count of the least", x.count(Integer.MIN_VALUE), -1);
    }
}
