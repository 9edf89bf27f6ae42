/** Edges of drawings: the terms of ==== 2, promises 15 to 21. */
final class EdgesOfDrawings {
    private final Sentences document;
    private final Dues dues;

    EdgesOfDrawings(Sentences document, Dues dues) {
        this.document = document;
        this.dues = dues;
    }

    void tryAll() {
        drawing();
        marks();
        drawn();
        joined();
        off();
        slipped();
    }

    private static NailStain ofStations(int stations, int drawings) {
        NailStain x = new NailStain();
        x.build(stations, 1);
        for (int k = 0; k < drawings; k++) {
            x.drawing(1900 + k);
        }
        return x;
    }

    /** A drawing's marks of side 0, by stations, all with the same z. */
    private static void put(NailStain x, int drawing, int z, int... ys) {
        for (int f = 0; f < ys.length; f++) {
            x.mark(drawing, f, 0, 0, ys[f], z);
        }
    }

    private void drawing() {
        document.term("DRAWINGS 0 to 3: a YEAR", () -> {
            NailStain x = ofStations(3, 0);
            for (int k = 0; k < 4; k++) {
                dues.due("how many", x.count(8), k);
                dues.due("no mark yet", x.count(10 + k), -1);
                dues.due("drawing " + k, x.drawing(2000 - k), k);
                dues.due("none of its marks", x.count(10 + k), 0);
            }
            dues.due("no drawing 4", x.count(14), -1);
            dues.no("a mark in drawing 4", x.mark(4, 0, 0, 0, 0, 0));
        });
        document.promise(15, "A DRAWING of a YEAR (0 to 2100): its number; NONE: no ship, no such YEAR, 4 are"
                + " there.", () -> {
            NailStain x = new NailStain();
            dues.due("no ship", x.drawing(1939), -1);
            x.build(3, 1);
            int[] refused = {-1, 2101, Integer.MIN_VALUE, Integer.MAX_VALUE};
            for (int year : refused) {
                dues.due("year " + year, x.drawing(year), -1);
                dues.due("none is there", x.count(8), 0);
            }
            dues.due("year 0", x.drawing(0), 0);
            dues.due("year 2100", x.drawing(2100), 1);
            dues.due("the same year again", x.drawing(2100), 2);
            x.mark(2, 0, 0, 0, 5, 5);
            dues.due("the fourth", x.drawing(1), 3);
            dues.due("4 are there", x.drawing(1), -1);
            dues.due("four", x.count(8), 4);
            dues.due("a mark stays", x.marked(2, 0, 0, 0, 0), 5);
        });
    }

    private void marks() {
        document.term("MARKS of RIVETS: y, z (-6000 to 6000), one of each RIVET at most.", () -> {
            NailStain x = ofStations(3, 1);
            dues.yes("the least", x.mark(0, 2, 0, 1, -6000, -6000));
            markIs(x, -6000, -6000);
            dues.yes("the greatest", x.mark(0, 2, 0, 1, 6000, 6000));
            markIs(x, 6000, 6000);
            dues.due("one of it", x.count(10), 1);
            int[][] refused = {{-6001, 0}, {6001, 0}, {0, -6001}, {0, 6001}};
            for (int[] place : refused) {
                dues.no("mark", x.mark(0, 2, 0, 1, place[0], place[1]));
                dues.no("mark of another", x.mark(0, 0, 0, 0, place[0], place[1]));
                markIs(x, 6000, 6000);
                dues.due("still one", x.count(10), 1);
            }
            NailStain big = new NailStain();
            big.build(24, 8);
            big.drawing(1);
            big.draw(0, 0, 0, 0);
            dues.due("of all rivets", big.draw(0, 1, 1, 0), 384);
        });
        document.promise(16, "A MARK, in place of one before: true; false: no such ones.", () -> {
            NailStain x = new NailStain();
            dues.no("no ship", x.mark(0, 0, 0, 0, 0, 0));
            x.build(3, 1);
            dues.no("no drawing", x.mark(0, 0, 0, 0, 0, 0));
            x.drawing(1);
            dues.yes("mark", x.mark(0, 2, 0, 1, 1, 2));
            dues.yes("in place of it", x.mark(0, 2, 0, 1, 3, 4));
            markIs(x, 3, 4);
            int[][] refused = {{-1, 0, 0, 0}, {1, 0, 0, 0}, {0, -1, 0, 0}, {0, 3, 0, 0}, {0, 0, -1, 0}, {0, 0, 1, 0},
                {0, 0, 0, -1}, {0, 0, 0, 2}};
            for (int[] one : refused) {
                dues.no("no such ones", x.mark(one[0], one[1], one[2], one[3], 7, 7));
            }
            dues.due("one mark", x.count(10), 1);
            x.gone(0, 0, 0);
            dues.yes("of one that is gone", x.mark(0, 0, 0, 0, 1, 1));
            x.cut(2);
            dues.yes("of one that is cut away", x.mark(0, 1, 0, 0, 1, 1));
        });
        document.promise(18, "Of a MARK, what 0 y, 1 z; -10000: there is none, no such ones.", () -> {
            NailStain x = new NailStain();
            dues.due("no ship", x.marked(0, 0, 0, 0, 0), -10000);
            x.build(3, 1);
            dues.due("no drawing", x.marked(0, 0, 0, 0, 0), -10000);
            x.drawing(1);
            x.drawing(1);
            dues.due("there is none", x.marked(0, 2, 0, 1, 0), -10000);
            x.mark(0, 2, 0, 1, 0, -5);
            markIs(x, 0, -5);
            dues.due("not of the other side", x.marked(0, 2, 0, 0, 0), -10000);
            dues.due("not of the other drawing", x.marked(1, 2, 0, 1, 0), -10000);
            int[][] refused = {{-1, 2, 0, 1, 0}, {2, 2, 0, 1, 0}, {0, -1, 0, 1, 0}, {0, 3, 0, 1, 0}, {0, 2, -1, 1, 0},
                {0, 2, 1, 1, 0}, {0, 2, 0, -1, 0}, {0, 2, 0, 2, 0}, {0, 2, 0, 1, -1}, {0, 2, 0, 1, 2}};
            for (int[] one : refused) {
                dues.due("no such ones", x.marked(one[0], one[1], one[2], one[3], one[4]), -10000);
            }
        });
    }

    private void markIs(NailStain x, int y, int z) {
        dues.due("y of the mark", x.marked(0, 2, 0, 1, 0), y);
        dues.due("z of the mark", x.marked(0, 2, 0, 1, 1), z);
    }

    private void drawn() {
        document.term("DRAWN by a told shift and a slip: of all RIVETS that are neither GONE nor CUT AWAY: y, z and the"
                + " shift; by LUCK (X as above, once for each such RIVET, by STATIONS, STRAKES, SIDES) below a told"
                + " number of thousandths y is 50 more.", () -> {
            NailStain x = new NailStain();
            x.build(3, 2);
            x.drawing(1);
            x.gone(0, 0, 0);
            x.gone(2, 1, 1);
            x.cut(2);
            x.seed(65535);
            dues.due("draw", x.draw(0, 3, -4, 500), 6);
            int chance = 65535;
            for (int i = 0; i < 12; i++) {
                boolean isDrawn = i != 0 && i != 11 && i / 4 != 1;
                chance = isDrawn ? Dues.chance(chance, 1) : chance;
                int y = chance % 1000 < 500 ? 53 : 3;
                dues.due("y of " + i, x.marked(0, i / 4, i / 2 % 2, i % 2, 0), isDrawn ? y : -10000);
                dues.due("z of " + i, x.marked(0, i / 4, i / 2 % 2, i % 2, 1), isDrawn ? -4 : -10000);
            }
            dues.due("X then", x.count(3), chance);
            slips(0, 0, 0);
            slips(0, 1, 50);
            slips(22, 22, 0);
            slips(22, 23, 50);
            slips(999, 999, 0);
            slips(999, 1000, 50);
        });
        document.promise(17, "DRAWN by a shift (-2000 to 2000 each), thousandths: how many MARKS it has then; NONE: no"
                + " such ones. (MARKS before stay, where there is no such RIVET.)", () -> {
            NailStain x = new NailStain();
            dues.due("no ship", x.draw(0, 0, 0, 0), -1);
            x.build(3, 1);
            dues.due("no drawing", x.draw(0, 0, 0, 0), -1);
            x.drawing(1);
            int[][] refused = {{-1, 0, 0, 0}, {1, 0, 0, 0}, {0, -2001, 0, 0}, {0, 2001, 0, 0}, {0, 0, -2001, 0},
                {0, 0, 2001, 0}, {0, 0, 0, -1}, {0, 0, 0, 1001}};
            for (int[] one : refused) {
                dues.due("no such ones", x.draw(one[0], one[1], one[2], one[3]), -1);
                dues.due("no marks, no luck", x.count(10) * 10 + x.count(3), 1);
            }
            x.lies(2, 0, 1, 3000, -3000);
            x.draw(0, 2000, -2000, 1000);
            markIs(x, 5050, -5000);
            x.lies(2, 0, 1, -3000, 3000);
            x.draw(0, -2000, 2000, 0);
            markIs(x, -5000, 5000);
            x.gone(2, 0, 1);
            x.cut(1);
            dues.due("six stay", x.draw(0, 9, 9, 0), 6);
            markIs(x, -5000, 5000);
            dues.due("of one cut away", x.marked(0, 0, 0, 0, 0), -2000);
            dues.due("of one that is seen", x.marked(0, 1, 0, 0, 0), 9);
            x.cut(7);
            int luck = x.count(3);
            dues.due("nothing is seen", x.draw(0, 0, 0, 1000), 6);
            dues.due("no luck was asked", x.count(3), luck);
            x.drawing(2);
            dues.due("nothing is drawn", x.draw(1, 0, 0, 1000), 0);
        });
    }

    private void slips(int luck, int thousandths, int want) {
        NailStain x = ofStations(3, 1);
        x.seed(Dues.seedOf(luck));
        x.draw(0, 0, 0, thousandths);
        dues.due("slipped by luck " + luck + " of " + thousandths, x.marked(0, 0, 0, 0, 0), want);
    }

    private void joins(NailStain x, int shift, int left) {
        dues.due("the shift", x.joined(0, 1, 0), shift);
        dues.due("left", x.joined(0, 1, 3), left);
    }

    private void joined() {
        document.term("JOINED: of two DRAWINGS, over RIVETS that both have (n)", () -> {
            NailStain x = ofStations(3, 2);
            for (int i = 0; i < 6; i++) {
                dues.due("before " + i, x.joined(0, 1, 2), Math.max(0, i - 1));
                x.mark(0, i / 2, 0, i % 2, 1, 1);
                dues.due("of one alone, " + i, x.joined(0, 1, 2), Math.max(0, i - 1));
                if (i > 0) {
                    x.mark(1, i / 2, 0, i % 2, 1, 1);
                }
            }
            dues.due("of all but the first", x.joined(0, 1, 2), 5);
            x.mark(1, 0, 0, 0, 1, 1);
            dues.due("of all", x.joined(0, 1, 2), 6);
        });
        document.term("the shift of y by which the y of the one are nearest to those of the other one, together (how"
                + " far, without sign): the least such shift; z likewise.", () -> {
            NailStain x = ofStations(6, 2);
            put(x, 0, 0, 0, 0, 0, 0, 0, 0);
            x.mark(1, 0, 0, 0, -7, 7);
            joins(x, -7, 0);
            x.mark(1, 1, 0, 0, 5, -5);
            joins(x, -7, 12);
            dues.due("the least shift of z", x.joined(0, 1, 1), -5);
            x.mark(1, 2, 0, 0, 6, -6);
            joins(x, 5, 13);
            x.mark(1, 3, 0, 0, 5, -5);
            joins(x, 5, 13);
            x.mark(1, 4, 0, 0, 900, -900);
            joins(x, 5, 908);
            x.mark(1, 5, 0, 0, 901, -931);
            joins(x, 5, 1804);
            dues.due("z likewise", x.joined(0, 1, 1), -6);
            dues.due("left of z", x.joined(0, 1, 4), 1834);
            dues.due("the other way round, the least", x.joined(1, 0, 0), -6);
            dues.due("the other way round, as much is left", x.joined(1, 0, 3), 1804);
            dues.due("the other way round, as much of z", x.joined(1, 0, 4), 1834);
        });
        document.promise(19, "JOINED, what 0 the shift of y (of the second from the first), 1 that of z, 2 n, 3, 4 what"
                + " is left, together, in y, in z", () -> {
            NailStain x = ofStations(3, 2);
            put(x, 0, 6000, -6000, -6000);
            put(x, 1, -6000, 6000, 6000);
            long[] want = {12000, -12000, 2, 0, 0};
            for (int what = 0; what < 5; what++) {
                dues.due("as far as can be, what " + what, x.joined(0, 1, what), want[what]);
                boolean isShift = what < 2;
                dues.due("turned, what " + what, x.joined(1, 0, what), isShift ? -want[what] : want[what]);
            }
            NailStain big = new NailStain();
            big.build(24, 8);
            big.drawing(1);
            big.drawing(2);
            big.draw(0, -2000, 2000, 0);
            big.draw(1, 2000, -2000, 0);
            dues.due("n of the greatest ship", big.joined(0, 1, 2), 384);
            dues.due("its shift", big.joined(0, 1, 0), 4000);
        });
        document.promise(19, "-1000000: no RIVET of both (of 0, 1, 3, 4), no such ones, one twice.", () -> {
            NailStain x = new NailStain();
            dues.due("no ship", x.joined(0, 1, 2), -1000000);
            x.build(3, 1);
            dues.due("no drawing", x.joined(0, 1, 2), -1000000);
            x.drawing(1);
            dues.due("one drawing", x.joined(0, 1, 2), -1000000);
            x.drawing(2);
            for (int what = 0; what < 5; what++) {
                dues.due("no marks, what " + what, x.joined(0, 1, what), what == 2 ? 0 : -1000000);
            }
            x.mark(0, 0, 0, 0, 1, 1);
            x.mark(1, 0, 0, 1, 2, 2);
            for (int what = 0; what < 5; what++) {
                dues.due("no rivet of both, what " + what, x.joined(0, 1, what), what == 2 ? 0 : -1000000);
            }
            x.mark(1, 0, 0, 0, 1, 1);
            dues.due("one of both", x.joined(0, 1, 2), 1);
            int[][] refused = {{0, 0, 2}, {1, 1, 2}, {0, 2, 2}, {2, 0, 2}, {-1, 0, 2}, {0, -1, 2}, {0, 1, -1}, {0, 1, 5}};
            for (int[] one : refused) {
                dues.due("no such ones", x.joined(one[0], one[1], one[2]), -1000000);
            }
        });
    }

    private void off() {
        document.term("OFF: RIVETS of both that are farther from one another than so much, in y or z, behind that"
                + " shift.", () -> {
            NailStain x = ofStations(5, 2);
            put(x, 0, 0, 0, 0, 0, 0, 0);
            put(x, 1, 20, 10, 10, 10, 10, 10);
            dues.due("none", x.off(0, 1, 0), 0);
            x.mark(1, 1, 0, 0, 15, 20);
            dues.due("by y more than 4", x.off(0, 1, 4), 1);
            dues.due("by y more than 5", x.off(0, 1, 5), 0);
            x.mark(1, 2, 0, 0, 10, 13);
            dues.due("by z more than 6", x.off(0, 1, 6), 1);
            dues.due("by z more than 7", x.off(0, 1, 7), 0);
            dues.due("either", x.off(0, 1, 4), 2);
            x.mark(1, 1, 0, 0, 15, 13);
            dues.due("both of one count once", x.off(0, 1, 4), 2);
        });
        document.promise(20, "How many RIVETS are OFF by more than so much (0 to 12000); NONE: no RIVET of both, no"
                + " such ones, one twice.", () -> {
            NailStain x = new NailStain();
            dues.due("no ship", x.off(0, 1, 0), -1);
            x.build(3, 1);
            x.drawing(1);
            dues.due("one drawing", x.off(0, 1, 0), -1);
            x.drawing(2);
            dues.due("no rivet of both", x.off(0, 1, 0), -1);
            put(x, 0, 0, -6000, 6000);
            put(x, 1, 0, -6000, -6000);
            // Shifts are 0 and -12000: the least of those that are as near is -12000.
            dues.due("more than 11999", x.off(0, 1, 11999), 1);
            dues.due("more than 12000", x.off(0, 1, 12000), 0);
            dues.due("more than 0", x.off(0, 1, 0), 1);
            int[][] refused = {{0, 1, -1}, {0, 1, 12001}, {0, 0, 5}, {1, 1, 5}, {0, 2, 5}, {2, 1, 5}, {-1, 1, 5}, {0, -1, 5}};
            for (int[] one : refused) {
                dues.due("no such ones", x.off(one[0], one[1], one[2]), -1);
            }
        });
    }

    private void slipped() {
        document.term("WHO SLIPPED of such a RIVET by a third DRAWING: 0 the first, 1 the second, 2 not known: that"
                + " whose y and z (each taken off what it is JOINED by to the third) are together farther from those of"
                + " the third (as far: not known).", () -> {
            NailStain x = ofStations(5, 3);
            put(x, 0, 3, 100, 100, 100, 100, 100);
            put(x, 1, 4, 200, 200, 200, 200, 200);
            put(x, 2, 5, 300, 300, 300, 300, 300);
            who(x, 2);
            x.mark(0, 2, 0, 0, 101, 3);
            who(x, 0);
            x.mark(1, 2, 0, 0, 200, 3);
            who(x, 2);
            x.mark(1, 2, 0, 0, 199, 3);
            who(x, 1);
            x.mark(0, 2, 0, 0, 99, 4);
            who(x, 2);
            x.mark(0, 2, 0, 0, 97, 3);
            who(x, 0);
            // The third went as the first did: so it was the second.
            x.mark(2, 2, 0, 0, 297, 5);
            x.mark(1, 2, 0, 0, 200, 4);
            who(x, 1);
            dues.due("turned", x.slipped(1, 0, 2, 2, 0, 0), 0);
        });
        document.promise(21, "WHO SLIPPED, a or b (0, 1, 2) by DRAWING c; NONE: one of the three has no MARK of it, two"
                + " of them no RIVET of both, no such ones, one twice.", () -> {
            NailStain x = new NailStain();
            dues.due("no ship", x.slipped(0, 1, 2, 0, 0, 0), -1);
            x.build(3, 1);
            dues.due("no drawing", x.slipped(0, 1, 2, 0, 0, 0), -1);
            x.drawing(1);
            x.drawing(2);
            x.mark(0, 2, 0, 0, 1, 1);
            x.mark(1, 2, 0, 0, 1, 1);
            dues.due("two drawings", x.slipped(0, 1, 2, 2, 0, 0), -1);
            x.drawing(3);
            dues.due("the third has no mark", x.slipped(0, 1, 2, 2, 0, 0), -1);
            dues.due("the first has none", x.slipped(2, 0, 1, 2, 0, 0), -1);
            dues.due("the second has none", x.slipped(0, 2, 1, 2, 0, 0), -1);
            x.mark(2, 1, 0, 0, 1, 1);
            dues.due("the third has one of another", x.slipped(0, 1, 2, 2, 0, 0), -1);
            x.mark(2, 2, 0, 0, 1, 1);
            who(x, 2);
            for (int k = 0; k < 3; k++) {
                x.mark(k, 0, 0, 0, 1, 1);
            }
            dues.due("of the first rivet", x.slipped(0, 1, 2, 0, 0, 0), 2);
            dues.due("none of the other side", x.slipped(0, 1, 2, 2, 0, 1), -1);
            int[][] refused = {{0, 0, 2, 2, 0, 0}, {0, 1, 1, 2, 0, 0}, {0, 1, 0, 2, 0, 0}, {1, 1, 1, 2, 0, 0},
                {-1, 1, 2, 2, 0, 0}, {0, -1, 2, 2, 0, 0}, {0, 1, -1, 2, 0, 0}, {3, 1, 2, 2, 0, 0}, {0, 3, 2, 2, 0, 0},
                {0, 1, 3, 2, 0, 0}, {0, 1, 2, -1, 0, 0}, {0, 1, 2, 3, 0, 0}, {0, 1, 2, 2, -1, 0}, {0, 1, 2, 2, 1, 0},
                {0, 1, 2, 2, 0, -1}, {0, 1, 2, 2, 0, 2}};
            for (int[] one : refused) {
                dues.due("no such ones", x.slipped(one[0], one[1], one[2], one[3], one[4], one[5]), -1);
            }
        });
    }

    private void who(NailStain x, int want) {
        dues.due("who slipped", x.slipped(0, 1, 2, 2, 0, 0), want);
    }
}
