/** Promises 22 to 24: spans, the batten, and what is lost beyond the ends. */
public final class LinesTest {
    private static final Dues DUES = new Dues();

    public static void main(String[] args) {
        span();
        spanOfUnseen();
        spanTooWide();
        batten();
        battenOfLikeOnes();
        battenFarOut();
        battenFollowsChanges();
        battenOfTheWidest();
        lost();
        DUES.end("LinesTest");
    }

    private static void span() {
        NailStain x = new NailStain();
        DUES.due("no ship", x.span(0, 0, 0, 0), -10000);
        x.build(3, 2);
        x.lies(1, 1, 0, 30, 0);
        x.lies(1, 1, 1, -5, 0);
        DUES.due("low", x.span(1, 1, 0, 0), -5);
        DUES.due("high", x.span(1, 1, 0, 1), 30);
        DUES.due("low, farther out", x.span(1, 1, 12, 0), -17);
        DUES.due("high, farther out", x.span(1, 1, 12, 1), 42);
        DUES.due("the other strake", x.span(0, 1, 12, 1), 12);
        DUES.due("strake 2", x.span(2, 1, 0, 0), -10000);
        DUES.due("strake -1", x.span(-1, 1, 0, 0), -10000);
        DUES.due("station 3", x.span(1, 3, 0, 0), -10000);
        DUES.due("station -1", x.span(1, -1, 0, 0), -10000);
        DUES.due("out 41", x.span(1, 0, 41, 0), -10000);
        DUES.due("out -1", x.span(1, 0, -1, 0), -10000);
        DUES.due("what 2", x.span(1, 1, 0, 2), -10000);
        DUES.due("what -1", x.span(1, 1, 0, -1), -10000);
        x.gone(1, 1, 1);
        DUES.due("of the one that is left", x.span(1, 1, 1, 0), 29);
    }

    private static void spanOfUnseen() {
        NailStain x = Dues.shipOf(10, 0, 0, 40, 30, 0);
        x.lies(3, 0, 1, 35, 0);
        x.cut(4);
        x.gone(1, 0, 0);
        x.gone(1, 0, 1);
        x.gone(5, 0, 0);
        x.gone(5, 0, 1);
        DUES.due("low between", x.span(0, 1, 0, 0), 10);
        DUES.due("high between", x.span(0, 2, 0, 1), 40);
        DUES.due("once farther out", x.span(0, 2, 3, 1), 43);
        DUES.due("once farther out, low", x.span(0, 1, 3, 0), 7);
        DUES.due("beyond the end", x.span(0, 5, 0, 0), 30);
        DUES.due("beyond the end, high", x.span(0, 5, 2, 1), 32);
        x.cut(1);
        DUES.due("ahead of the first", x.span(0, 0, 0, 1), 0);
        DUES.due("next to it", x.span(0, 1, 0, 0), 0);
        x.cut(63);
        DUES.due("none is seen", x.span(0, 3, 0, 0), -10000);
        x.cut(31);
        DUES.due("none is seen, where some are gone", x.span(0, 5, 0, 0), -10000);
        x.cut(0);
        x.lies(1, 0, 0, 5, 0);
        DUES.due("the other one of a station is gone", x.span(0, 1, 0, 1), 5);
    }

    private static void spanTooWide() {
        NailStain x = Dues.shipOf(0, 0, 0, 0);
        x.lies(2, 0, 0, 60, 0);
        DUES.due("60", x.span(0, 2, 0, 1), 60);
        DUES.due("60 out of 1", x.span(0, 2, 1, 1), -10000);
        x.lies(2, 0, 0, 61, 0);
        DUES.due("61", x.span(0, 2, 0, 1), -10000);
        DUES.due("none of the strake", x.span(0, 0, 0, 1), -10000);
        DUES.due("no batten", x.batten(0, 0, 0), -1000000);
        x.lies(2, 0, 1, 61, 0);
        DUES.due("narrow, far from its neighbour", x.span(0, 2, 0, 1), 61);
        x.cut(2);
        DUES.due("wide between two narrow ones", x.span(0, 1, 0, 1), -10000);
        x.lies(2, 0, 0, 0, 0);
        x.lies(2, 0, 1, -20, 0);
        DUES.due("20 and 40 out", x.span(0, 2, 20, 0), -40);
        DUES.due("20 and 42 out", x.span(0, 2, 21, 0), -10000);
        DUES.due("out 30 elsewhere", Dues.shipOf(0, 0, 0).span(0, 0, 30, 0), -30);
        DUES.due("out 31 is too wide", Dues.shipOf(0, 0, 0).span(0, 0, 31, 0), -10000);
    }

    private static void row(String what, NailStain x, int out, long squares, int... ys) {
        DUES.due(what + " squares", x.batten(0, out, -1), squares);
        for (int f = 0; f < ys.length; f++) {
            DUES.due(what + " at " + f, x.batten(0, out, f), ys[f]);
        }
    }

    private static void batten() {
        NailStain none = new NailStain();
        DUES.due("no ship", none.batten(0, 0, -1), -1000000);
        NailStain x = Dues.shipOf(0, 10, 0);
        row("as it lies", x, 0, 400, 0, 10, 0);
        row("out 1", x, 1, 256, 1, 9, 1);
        row("out 5", x, 5, 0, 5, 5, 5);
        DUES.due("station 3", x.batten(0, 0, 3), -1000000);
        DUES.due("what -2", x.batten(0, 0, -2), -1000000);
        DUES.due("strake 1", x.batten(1, 0, 0), -1000000);
        DUES.due("strake -1", x.batten(-1, 0, 0), -1000000);
        DUES.due("out 41", x.batten(0, 41, 0), -1000000);
        DUES.due("out -1", x.batten(0, -1, 0), -1000000);
        x.cut(2);
        row("bridged", x, 0, 0, 0, 0, 0);
    }

    private static void battenOfLikeOnes() {
        row("the least row", Dues.shipOf(0, 0, 0, 0), 30, 0, -30, -30, -30, -30);
        NailStain x = Dues.shipOf(0, 3, 0, 0);
        x.cut(4);
        row("between 0 and 3", x, 0, 16 + 1, 0, 3, 2, 0);
        NailStain y = Dues.shipOf(0, 5, 5, 5, 0);
        y.lies(2, 0, 1, 0, 0);
        row("one is free", y, 0, 25 + 25, 0, 5, 5, 5, 0);
        NailStain middle = Dues.shipOf(-3, 0, 0, 0, 0);
        middle.lies(2, 0, 1, 1, 0);
        row("0 and 1 in the middle are alike", middle, 0, 9, -3, 0, 0, 0, 0);
        NailStain first = Dues.shipOf(0, 10, 10);
        first.lies(0, 0, 1, 10, 0);
        row("the first is wider than the next", first, 0, 0, 10, 10, 10);
        row("all but the next at the low end", Dues.shipOf(10, 0, 10), 3, 64, 7, 3, 7);
    }

    private static void battenFarOut() {
        NailStain x = Dues.shipOf(3000, -3000, 3000, -3000, 3000, -3000);
        row("squares beyond 32 bits", x, 0, 4L * 12000 * 12000, 3000, -3000, 3000, -3000, 3000, -3000);
        NailStain y = new NailStain();
        y.build(24, 1);
        for (int f = 0; f < 24; f++) {
            y.lies(f, 0, 0, f % 2 == 0 ? 3000 : -3000, 0);
            y.lies(f, 0, 1, f % 2 == 0 ? 3000 : -3000, 0);
        }
        DUES.due("24 of them", y.batten(0, 0, -1), 22L * 12000 * 12000);
        DUES.due("24 of them, out 10", y.batten(0, 10, -1), 22L * 11960 * 11960);
    }

    private static void battenFollowsChanges() {
        NailStain x = Dues.shipOf(0, 10, 0);
        DUES.due("as it lies", x.batten(0, 0, 1), 10);
        x.lies(1, 0, 0, 4, 0);
        DUES.due("told anew", x.batten(0, 0, 1), 4);
        x.gone(1, 0, 0);
        DUES.due("one is gone", x.batten(0, 0, 1), 10);
        x.cut(2);
        DUES.due("cut away", x.batten(0, 0, 1), 0);
        x.cut(0);
        DUES.due("and not", x.batten(0, 0, 1), 10);
        Dues.sand(x, "a7(1=1)");
        x.bury(1);
        DUES.due("buried", x.batten(0, 0, 1), 17);
        DUES.due("another out", x.batten(0, 2, 1), 15);
        DUES.due("and back", x.batten(0, 0, 1), 17);
        x.build(3, 1);
        DUES.due("built anew", x.batten(0, 0, 1), 0);
    }

    private static void battenOfTheWidest() {
        NailStain x = new NailStain();
        x.build(24, 1);
        for (int f = 0; f < 24; f++) {
            x.lies(f, 0, 0, f * 100, 0);
            x.lies(f, 0, 1, f * 100 + 60, 0);
        }
        DUES.due("straight", x.batten(0, 0, -1), 0);
        for (int f = 0; f < 24; f++) {
            DUES.due("the least straight row", x.batten(0, 0, f), f * 100);
        }
    }

    private static void lost() {
        DUES.due("no ship", new NailStain().lost(0, 0, 0), -1);
        NailStain x = Dues.shipOf(7, 10, 13, 9, 4);
        DUES.due("beyond the last", x.lost(0, 0, 1), 1);
        DUES.due("ahead of the first", x.lost(0, 0, 0), 3);
        DUES.due("end 2", x.lost(0, 0, 2), -1);
        DUES.due("end -1", x.lost(0, 0, -1), -1);
        DUES.due("strake 1", x.lost(1, 0, 1), -1);
        DUES.due("out 41", x.lost(0, 41, 1), -1);
        DUES.due("just at 0", Dues.shipOf(6, 8, 5).lost(0, 0, 0), 3);
        DUES.due("1 by 7", Dues.shipOf(1, 8, 5).lost(0, 0, 0), 1);
        DUES.due("5 by 3", Dues.shipOf(6, 8, 5).lost(0, 0, 1), 2);
        DUES.due("it is 0", Dues.shipOf(0, 8, -5).lost(0, 0, 0), 0);
        DUES.due("it is below", Dues.shipOf(0, 8, -5).lost(0, 0, 1), 0);
        DUES.due("it is below and grows", Dues.shipOf(-5, -8, 5).lost(0, 0, 0), -2);
        DUES.due("level", Dues.shipOf(5, 5, 5).lost(0, 0, 0), -2);
        DUES.due("level at 0", Dues.shipOf(0, 0, 0).lost(0, 0, 1), -2);
        DUES.due("far", Dues.shipOf(3000, 2999, 3000).lost(0, 0, 0), -2);
        DUES.due("by one", Dues.shipOf(2999, 3000, 2999).lost(0, 0, 0), 2999);
        x.cut(31);
        DUES.due("none is told", x.lost(0, 0, 1), -1);
    }
}
