/** Promises 15 to 21: drawings, their marks, how they join and who slipped. */
public final class DrawingsTest {
    private static final Dues DUES = new Dues();

    public static void main(String[] args) {
        drawing();
        mark();
        draw();
        drawByLuck();
        drawByLeastLuck();
        joined();
        joinedOfMany();
        off();
        slipped();
        DUES.end("DrawingsTest");
    }

    private static void drawing() {
        NailStain x = new NailStain();
        DUES.due("no ship", x.drawing(1939), -1);
        x.build(3, 1);
        DUES.due("year -1", x.drawing(-1), -1);
        DUES.due("year 2101", x.drawing(2101), -1);
        DUES.due("year 0", x.drawing(0), 0);
        DUES.due("year 2100", x.drawing(2100), 1);
        DUES.due("the same year", x.drawing(2100), 2);
        DUES.due("a fourth", x.drawing(7), 3);
        DUES.due("a fifth", x.drawing(7), -1);
        DUES.due("four are there", x.count(8), 4);
    }

    private static void mark() {
        NailStain x = new NailStain();
        x.build(3, 2);
        DUES.no("no drawing", x.mark(0, 0, 0, 0, 0, 0));
        x.drawing(1);
        DUES.due("no mark", x.marked(0, 2, 1, 1, 0), -10000);
        DUES.yes("mark", x.mark(0, 2, 1, 1, 6000, -6000));
        DUES.due("y", x.marked(0, 2, 1, 1, 0), 6000);
        DUES.due("z", x.marked(0, 2, 1, 1, 1), -6000);
        DUES.yes("in place", x.mark(0, 2, 1, 1, -6000, 6000));
        DUES.due("y then", x.marked(0, 2, 1, 1, 0), -6000);
        DUES.due("one mark", x.count(10), 1);
        DUES.no("y", x.mark(0, 0, 0, 0, 6001, 0));
        DUES.no("y below", x.mark(0, 0, 0, 0, -6001, 0));
        DUES.no("z", x.mark(0, 0, 0, 0, 0, 6001));
        DUES.no("z below", x.mark(0, 0, 0, 0, 0, -6001));
        DUES.no("drawing", x.mark(1, 0, 0, 0, 0, 0));
        DUES.no("drawing below", x.mark(-1, 0, 0, 0, 0, 0));
        DUES.no("station", x.mark(0, 3, 0, 0, 0, 0));
        DUES.no("strake", x.mark(0, 0, 2, 0, 0, 0));
        DUES.no("side", x.mark(0, 0, 0, 2, 0, 0));
        DUES.due("what 2", x.marked(0, 2, 1, 1, 2), -10000);
        DUES.due("what -1", x.marked(0, 2, 1, 1, -1), -10000);
        DUES.due("drawing 1", x.marked(1, 2, 1, 1, 0), -10000);
        DUES.due("station 3", x.marked(0, 3, 1, 1, 0), -10000);
        x.gone(0, 0, 0);
        x.cut(1);
        DUES.yes("a mark of what is gone and cut away", x.mark(0, 0, 0, 0, 1, 2));
    }

    private static void draw() {
        NailStain x = new NailStain();
        x.build(3, 1);
        DUES.due("no drawing", x.draw(0, 0, 0, 0), -1);
        x.drawing(1);
        DUES.due("dy", x.draw(0, 2001, 0, 0), -1);
        DUES.due("dy below", x.draw(0, -2001, 0, 0), -1);
        DUES.due("dz", x.draw(0, 0, 2001, 0), -1);
        DUES.due("dz below", x.draw(0, 0, -2001, 0), -1);
        DUES.due("thousandths", x.draw(0, 0, 0, 1001), -1);
        DUES.due("thousandths below", x.draw(0, 0, 0, -1), -1);
        DUES.due("no luck was asked", x.count(3), 1);
        x.lies(1, 0, 1, 3000, -3000);
        x.gone(0, 0, 0);
        x.cut(4);
        x.mark(0, 0, 0, 0, 11, 12);
        x.mark(0, 1, 0, 1, 13, 14);
        DUES.due("draw", x.draw(0, 2000, -2000, 1000), 4);
        DUES.due("luck for three", x.count(3), (25173L * ((25173L * ((25173L + 13849) % 65536) + 13849) % 65536) + 13849) % 65536);
        DUES.due("y and the shift and a slip", x.marked(0, 1, 0, 1, 0), 5050);
        DUES.due("z and the shift", x.marked(0, 1, 0, 1, 1), -5000);
        DUES.due("a mark before stays", x.marked(0, 0, 0, 0, 0), 11);
        DUES.due("none of what is cut away", x.marked(0, 2, 0, 0, 0), -10000);
    }

    private static void drawByLuck() {
        NailStain x = new NailStain();
        x.build(4, 2);
        x.drawing(1);
        x.seed(500);
        DUES.due("draw", x.draw(0, 1, 2, 400), 16);
        long luck = 500;
        for (int i = 0; i < 16; i++) {
            luck = (25173 * luck + 13849) % 65536;
            DUES.due("y " + i, x.marked(0, i / 4, i / 2 % 2, i % 2, 0), luck % 1000 < 400 ? 51 : 1);
            DUES.due("z " + i, x.marked(0, i / 4, i / 2 % 2, i % 2, 1), 2);
        }
    }

    private static void drawByLeastLuck() {
        NailStain x = new NailStain();
        x.build(24, 8);
        x.drawing(1);
        DUES.due("all of the greatest ship", x.draw(0, 0, 0, 0), 384);
        DUES.due("the last one", x.marked(0, 23, 7, 1, 0), 0);
        x.seed(1);
        x.draw(0, 0, 0, 22);
        DUES.due("luck 22 is not below 22", x.marked(0, 0, 0, 0, 0), 0);
        x.seed(1);
        x.draw(0, 0, 0, 23);
        DUES.due("luck 22 is below 23", x.marked(0, 0, 0, 0, 0), 50);
    }

    private static NailStain two() {
        NailStain x = new NailStain();
        x.build(5, 1);
        x.drawing(1);
        x.drawing(2);
        return x;
    }

    private static void joined() {
        NailStain x = two();
        for (int what = 0; what < 5; what++) {
            DUES.due("no rivet of both " + what, x.joined(0, 1, what), what == 2 ? 0 : -1000000);
        }
        x.mark(0, 0, 0, 0, 10, 0);
        x.mark(0, 1, 0, 0, 10, 100);
        x.mark(0, 2, 0, 0, 10, 200);
        x.mark(0, 3, 0, 0, 10, 0);
        x.mark(1, 0, 0, 0, 11, 5);
        x.mark(1, 1, 0, 0, 14, 105);
        x.mark(1, 2, 0, 0, 20, 190);
        x.mark(1, 3, 0, 0, 8, 6);
        x.mark(1, 4, 0, 0, 900, 900);
        DUES.due("n", x.joined(0, 1, 2), 4);
        DUES.due("the least of like shifts of y", x.joined(0, 1, 0), 1);
        DUES.due("the shift of z", x.joined(0, 1, 1), 5);
        DUES.due("what is left in y", x.joined(0, 1, 3), 3 + 9 + 3);
        DUES.due("what is left in z", x.joined(0, 1, 4), 15 + 1);
        DUES.due("the other way round", x.joined(1, 0, 0), -4);
        DUES.due("left is the same", x.joined(1, 0, 3), 15);
        DUES.due("what 5", x.joined(0, 1, 5), -1000000);
        DUES.due("what -1", x.joined(0, 1, -1), -1000000);
        DUES.due("one twice", x.joined(1, 1, 2), -1000000);
        DUES.due("drawing 2", x.joined(0, 2, 2), -1000000);
        DUES.due("drawing -1", x.joined(-1, 0, 2), -1000000);
    }

    private static void joinedOfMany() {
        NailStain x = two();
        x.mark(0, 0, 0, 0, -6000, 6000);
        x.mark(1, 0, 0, 0, 6000, -6000);
        DUES.due("the farthest shift", x.joined(0, 1, 0), 12000);
        DUES.due("the farthest shift below", x.joined(0, 1, 1), -12000);
        x.mark(0, 1, 0, 0, 0, 0);
        x.mark(1, 1, 0, 0, 0, 0);
        DUES.due("the least of two", x.joined(0, 1, 0), 0);
        DUES.due("the least of two below", x.joined(0, 1, 1), -12000);
        DUES.due("left", x.joined(0, 1, 4), 12000);
    }

    private static void off() {
        NailStain x = two();
        DUES.due("no rivet of both", x.off(0, 1, 5), -1);
        for (int f = 0; f < 5; f++) {
            x.mark(0, f, 0, 0, 0, 0);
            x.mark(1, f, 0, 0, 7, 9);
        }
        x.mark(1, 1, 0, 0, 17, 9);
        x.mark(1, 3, 0, 0, 2, -31);
        DUES.due("off by more than 0", x.off(0, 1, 0), 2);
        DUES.due("off by more than 9", x.off(0, 1, 9), 2);
        DUES.due("off by more than 10", x.off(0, 1, 10), 1);
        DUES.due("off by more than 39", x.off(0, 1, 39), 1);
        DUES.due("off by more than 40", x.off(0, 1, 40), 0);
        DUES.due("off the other way round", x.off(1, 0, 39), 1);
        x.mark(1, 0, 0, 0, 107, 9);
        DUES.due("the first one, too", x.off(0, 1, 40), 1);
        x.mark(1, 0, 0, 0, 7, 9);
        DUES.due("much 12000", x.off(0, 1, 12000), 0);
        DUES.due("much 12001", x.off(0, 1, 12001), -1);
        DUES.due("much -1", x.off(0, 1, -1), -1);
        DUES.due("one twice", x.off(0, 0, 1), -1);
        DUES.due("drawing 2", x.off(0, 2, 1), -1);
    }

    private static void slipped() {
        NailStain x = two();
        x.drawing(3);
        for (int f = 0; f < 5; f++) {
            x.mark(0, f, 0, 0, 0, 0);
            x.mark(1, f, 0, 0, 7, 9);
            x.mark(2, f, 0, 0, 100, 200);
        }
        x.mark(0, 1, 0, 0, 3, 4);
        x.mark(1, 1, 0, 0, 13, 9);
        x.mark(1, 2, 0, 0, 7, 8);
        x.mark(0, 3, 0, 0, 5, 0);
        x.mark(1, 3, 0, 0, 7, 4);
        DUES.due("y and z together", x.slipped(0, 1, 2, 1, 0, 0), 0);
        DUES.due("turned", x.slipped(1, 0, 2, 1, 0, 0), 1);
        DUES.due("the second", x.slipped(0, 1, 2, 2, 0, 0), 1);
        DUES.due("as far", x.slipped(0, 1, 2, 3, 0, 0), 2);
        DUES.due("neither", x.slipped(0, 1, 2, 4, 0, 0), 2);
        DUES.due("of the first one", x.slipped(0, 1, 2, 0, 0, 0), 2);
        DUES.due("no mark", x.slipped(0, 1, 2, 4, 0, 1), -1);
        DUES.due("a twice", x.slipped(0, 0, 2, 1, 0, 0), -1);
        DUES.due("c is a", x.slipped(0, 1, 0, 1, 0, 0), -1);
        DUES.due("c is b", x.slipped(0, 1, 1, 1, 0, 0), -1);
        DUES.due("drawing 3", x.slipped(0, 1, 3, 1, 0, 0), -1);
        DUES.due("drawing -1", x.slipped(-1, 1, 2, 1, 0, 0), -1);
        DUES.due("station 5", x.slipped(0, 1, 2, 5, 0, 0), -1);
        x.mark(0, 4, 0, 1, 1, 1);
        x.mark(1, 4, 0, 1, 1, 1);
        DUES.due("the third has no mark", x.slipped(0, 1, 2, 4, 0, 1), -1);
    }
}
