/** Promises 1 to 3 and 8 to 14: the ship, the sand, what lies where and what is seen. */
public final class ShipTest {
    private static final Dues DUES = new Dues();

    public static void main(String[] args) {
        fresh();
        pitch();
        seed();
        build();
        buildAnew();
        mound();
        bury();
        buriedByLuck();
        lies();
        gone();
        rivet();
        cut();
        DUES.end("ShipTest");
    }

    private static void fresh() {
        NailStain x = new NailStain();
        long[] want = {0, 0, 0, 1, 0, 0, 0, 0, 0, 0, -1};
        for (int what = 0; what < want.length; what++) {
            DUES.due("count(" + what + ") of a new one", x.count(what), want[what]);
        }
        DUES.due("no rivet", x.rivet(0, 0, 0, 0), -10000);
        DUES.due("no story", x.odds(-1), 0);
        DUES.due("no phosphor", x.body(12, 6, 2), 0);
        DUES.due("no stain", x.lasts(1, 0), -2);
    }

    private static void pitch() {
        NailStain x = Dues.shipOf(0, 0, 0);
        DUES.due("100 at first", x.length(0, 0), 200);
        DUES.no("pitch(0)", x.pitch(0));
        DUES.no("pitch(1001)", x.pitch(1001));
        DUES.no("pitch(-5)", x.pitch(-5));
        DUES.due("it stays", x.length(0, 0), 200);
        DUES.yes("pitch(1)", x.pitch(1));
        DUES.due("1", x.length(0, 0), 2);
        DUES.yes("pitch(1000)", x.pitch(1000));
        x.build(4, 1);
        DUES.due("it outlasts a ship", x.length(0, 0), 3000);
    }

    private static void seed() {
        NailStain x = new NailStain();
        DUES.due("1 at first", x.count(3), 1);
        DUES.no("seed(-1)", x.seed(-1));
        DUES.no("seed(65536)", x.seed(65536));
        DUES.due("it stays", x.count(3), 1);
        DUES.yes("seed(65535)", x.seed(65535));
        DUES.due("X too", x.count(3), 65535);
        DUES.yes("seed(0)", x.seed(0));
        x.build(3, 1);
        DUES.due("building asks no luck", x.count(3), 0);
        x.bury(1);
        DUES.due("six times on", x.count(3), after(0, 6));
        x.build(3, 1);
        x.bury(1);
        DUES.due("a new ship does not start it anew", x.count(3), after(0, 12));
    }

    private static long after(long x, int times) {
        for (int i = 0; i < times; i++) {
            x = (25173 * x + 13849) % 65536;
        }
        return x;
    }

    private static void build() {
        NailStain x = new NailStain();
        DUES.due("build(2, 1)", x.build(2, 1), -1);
        DUES.due("build(25, 1)", x.build(25, 1), -1);
        DUES.due("build(3, 0)", x.build(3, 0), -1);
        DUES.due("build(3, 9)", x.build(3, 9), -1);
        DUES.due("no ship", x.count(0), 0);
        DUES.due("build(3, 1)", x.build(3, 1), 6);
        DUES.due("build(24, 8)", x.build(24, 8), 384);
        DUES.due("24 stations", x.count(0), 24);
        DUES.due("8 strakes", x.count(1), 8);
        DUES.due("384 rivets", x.count(2), 384);
        DUES.due("the last one", x.rivet(23, 7, 1, 4), 1);
        DUES.due("build(1, 1)", x.build(1, 1), -1);
        DUES.due("the ship stays", x.count(0), 24);
    }

    private static void buildAnew() {
        NailStain x = new NailStain();
        x.build(24, 8);
        x.lies(2, 3, 1, 77, 78);
        x.gone(1, 1, 1);
        x.size(2, 0, 1, 9);
        x.drawing(1900);
        x.draw(0, 0, 0, 0);
        x.cut(6);
        x.thole(2, 0, 1);
        x.mound(0, 9);
        DUES.due("build(3, 4)", x.build(3, 4), 24);
        DUES.due("rivets fall", x.rivet(2, 3, 1, 0), 0);
        DUES.due("gone ones are there", x.count(2), 24);
        DUES.due("sizes fall", x.rivet(2, 0, 1, 3), 0);
        DUES.due("drawings fall", x.count(8), 0);
        DUES.due("a new drawing", x.drawing(1900), 0);
        DUES.due("has no marks", x.count(10), 0);
        DUES.due("cut away falls", x.rivet(1, 0, 0, 4), 1);
        DUES.due("tholes fall", x.oars(2), 0);
        Dues.sand(x, "bm(1=1)");
        x.bury(1);
        DUES.due("the mound stays", x.rivet(0, 0, 0, 1), 9);
        DUES.no("a station beyond", x.gone(3, 0, 0));
        Dues.rule(x, "y5+y+z+m+x(1=1)");
        x.build(3, 1);
        DUES.due("what the sand left in its letters is not the rule's", x.rivet(0, 0, 0, 0), 5);
    }

    private static void mound() {
        NailStain x = new NailStain();
        DUES.yes("mound(23, 1000) without a ship", x.mound(23, 1000));
        DUES.yes("mound(0, 0)", x.mound(0, 0));
        DUES.no("mound(24, 0)", x.mound(24, 0));
        DUES.no("mound(-1, 0)", x.mound(-1, 0));
        DUES.no("mound(0, 1001)", x.mound(0, 1001));
        DUES.no("mound(0, -1)", x.mound(0, -1));
        Dues.sand(x, "bm(1=1)");
        x.build(24, 1);
        x.bury(1);
        DUES.due("z by the mound", x.rivet(23, 0, 1, 1), 1000);
        DUES.due("z without one", x.rivet(22, 0, 1, 1), 0);
    }

    private static void bury() {
        NailStain x = new NailStain();
        DUES.due("no ship", x.bury(1), -1);
        x.build(3, 2);
        DUES.due("bury(0)", x.bury(0), -1);
        DUES.due("bury(10)", x.bury(10), -1);
        DUES.due("no luck was asked", x.count(3), 1);
        DUES.due("bury(1)", x.bury(1), 12);
        DUES.due("luck once for each", x.count(3), after(1, 12));
        Dues.sand(x, "a1000+y(1=1);b0-1000(1=1)");
        DUES.due("bury(9)", x.bury(9), 12);
        DUES.due("held to 3000", x.rivet(1, 1, 0, 0), 3000);
        DUES.due("held to -3000", x.rivet(1, 1, 0, 1), -3000);
        x.lies(0, 0, 0, 10, 1);
        Dues.sand(x, "ay(1=1);by(1=1)");
        x.bury(2);
        DUES.due("y doubled twice", x.rivet(0, 0, 0, 0), 40);
        DUES.due("z by y as it was ahead", x.rivet(0, 0, 0, 1), 31);
        x.gone(0, 0, 1);
        long luck = x.count(3);
        DUES.due("gone ones are not counted", x.bury(1), 11);
        DUES.due("gone ones ask no luck", x.count(3), after(luck, 11));
    }

    private static void buriedByLuck() {
        NailStain x = new NailStain();
        x.build(5, 2);
        x.seed(77);
        Dues.sand(x, "g500(1=1);ax(1=1);bf*100+s*10+d(1=1)");
        long luck = 77;
        int left = 0;
        x.bury(1);
        for (int i = 0; i < 20; i++) {
            luck = after(luck, 1);
            boolean gone = luck % 1000 < 500;
            left += gone ? 0 : 1;
            DUES.due("gone " + i, x.rivet(i / 4, i / 2 % 2, i % 2, 2), gone ? 1 : 0);
            DUES.due("y " + i, x.rivet(i / 4, i / 2 % 2, i % 2, 0), gone ? 0 : luck % 1000);
            DUES.due("z " + i, x.rivet(i / 4, i / 2 % 2, i % 2, 1), gone ? 0 : i / 4 * 100 + i / 2 % 2 * 10 + i % 2);
        }
        DUES.due("left", x.count(2), left);
        Dues.sand(x, "g22(1=1)");
        x.build(3, 1);
        x.seed(1);
        x.bury(1);
        DUES.due("luck 22 is not below 22", x.rivet(0, 0, 0, 2), 0);
        Dues.sand(x, "g23(1=1)");
        x.build(3, 1);
        x.seed(1);
        x.bury(1);
        DUES.due("luck 22 is below 23", x.rivet(0, 0, 0, 2), 1);
        int unlucky = 0;
        while (after(unlucky, 1) % 1000 != 0) {
            unlucky++;
        }
        Dues.sand(x, "g0-1(1=1)");
        x.build(3, 1);
        x.seed(unlucky);
        x.bury(1);
        DUES.due("luck 0 is not below 0", x.rivet(0, 0, 0, 2), 0);
        Dues.sand(x, "g2000(1=1)");
        DUES.due("all go", x.bury(1), 0);
        x.build(3, 1);
        Dues.sand(x, "g0-5(1=1)");
        DUES.due("none goes", x.bury(9), 6);
    }

    private static void lies() {
        NailStain x = new NailStain();
        DUES.no("no ship", x.lies(0, 0, 0, 0, 0));
        x.build(3, 2);
        DUES.yes("lies", x.lies(2, 1, 1, 3000, -3000));
        DUES.due("y", x.rivet(2, 1, 1, 0), 3000);
        DUES.due("z", x.rivet(2, 1, 1, 1), -3000);
        DUES.no("station", x.lies(3, 0, 0, 0, 0));
        DUES.no("station below", x.lies(-1, 0, 0, 0, 0));
        DUES.no("strake", x.lies(0, 2, 0, 0, 0));
        DUES.no("strake below", x.lies(0, -1, 0, 0, 0));
        DUES.no("side", x.lies(0, 0, 2, 0, 0));
        DUES.no("side below", x.lies(0, 0, -1, 0, 0));
        DUES.no("y", x.lies(2, 1, 1, -3001, 0));
        DUES.no("y above", x.lies(2, 1, 1, 3001, 0));
        DUES.no("z", x.lies(2, 1, 1, 0, 3001));
        DUES.no("z below", x.lies(2, 1, 1, 0, -3001));
        DUES.due("it stays", x.rivet(2, 1, 1, 0), 3000);
        x.gone(2, 1, 1);
        x.lies(2, 1, 1, 5, 6);
        DUES.due("not gone then", x.rivet(2, 1, 1, 2), 0);
    }

    private static void gone() {
        NailStain x = new NailStain();
        DUES.no("no ship", x.gone(0, 0, 0));
        x.build(3, 1);
        x.lies(1, 0, 0, 8, 9);
        DUES.yes("gone", x.gone(1, 0, 0));
        DUES.no("gone already", x.gone(1, 0, 0));
        DUES.due("y where it was last", x.rivet(1, 0, 0, 0), 8);
        DUES.due("z where it was last", x.rivet(1, 0, 0, 1), 9);
        DUES.due("gone", x.rivet(1, 0, 0, 2), 1);
        DUES.due("not seen", x.rivet(1, 0, 0, 4), 0);
        DUES.due("five left", x.count(2), 5);
        DUES.no("station", x.gone(3, 0, 0));
        DUES.no("strake", x.gone(0, 1, 0));
        DUES.no("side", x.gone(0, 0, 2));
    }

    private static void rivet() {
        NailStain x = new NailStain();
        x.build(3, 1);
        x.lies(0, 0, 1, 4, 5);
        x.size(0, 0, 1, 6);
        long[] want = {-10000, 4, 5, 0, 6, 1, -10000};
        for (int what = -1; what < 6; what++) {
            DUES.due("rivet what " + what, x.rivet(0, 0, 1, what), want[what + 1]);
        }
        DUES.due("station", x.rivet(-1, 0, 0, 0), -10000);
        DUES.due("strake", x.rivet(0, -1, 0, 0), -10000);
        DUES.due("side", x.rivet(0, 0, -1, 0), -10000);
    }

    private static void cut() {
        NailStain x = new NailStain();
        DUES.yes("cut(0) without a ship", x.cut(0));
        DUES.no("cut(1) without a ship", x.cut(1));
        x.build(3, 1);
        DUES.yes("cut(5)", x.cut(5));
        DUES.due("cut away", x.rivet(0, 0, 0, 4), 0);
        DUES.due("not cut away", x.rivet(1, 0, 0, 4), 1);
        DUES.due("cut away is not gone", x.rivet(0, 0, 0, 2), 0);
        DUES.due("still counted", x.count(2), 6);
        DUES.no("cut(8)", x.cut(8));
        DUES.no("cut(-1)", x.cut(-1));
        DUES.no("cut(1 << 31)", x.cut(1 << 31));
        DUES.due("it stays", x.rivet(2, 0, 0, 4), 0);
        DUES.yes("in place of it", x.cut(2));
        DUES.due("seen again", x.rivet(0, 0, 0, 4), 1);
        DUES.yes("all", x.cut(7));
        x.build(24, 1);
        DUES.yes("cut of all 24", x.cut((1 << 24) - 1));
        DUES.no("cut of a 25th", x.cut(1 << 24));
        DUES.due("cut ones are buried, too", x.bury(1), 48);
    }
}
