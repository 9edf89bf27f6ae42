/** Edges of spans, battens and what is lost: the terms of ==== 3 about lines, promises 22 to 24. */
final class EdgesOfLines {
    private final Sentences document;
    private final Dues dues;

    EdgesOfLines(Sentences document, Dues dues) {
        this.document = document;
        this.dues = dues;
    }

    void tryAll() {
        spans();
        unseen();
        untold();
        battens();
        lost();
    }

    private void spanIs(NailStain x, int station, int out, int low, int high) {
        dues.due("low end at " + station + " out " + out, x.span(0, station, out, 0), low);
        dues.due("high end at " + station + " out " + out, x.span(0, station, out, 1), high);
    }

    private void spans() {
        document.term("LINES: of a STRAKE in y: each STATION has a SPAN: from the least to the greatest y of what is"
                + " seen there of this STRAKE (both SIDES: RIVETS that are neither GONE nor CUT AWAY), each end so much"
                + " farther out (0 to 40)", () -> {
            NailStain x = Dues.shipOf(0, 0, 0);
            x.lies(1, 0, 0, -5, 0);
            x.lies(1, 0, 1, 7, 0);
            spanIs(x, 1, 0, -5, 7);
            spanIs(x, 1, 1, -6, 8);
            spanIs(x, 1, 24, -29, 31);
            dues.due("62 wide", x.span(0, 1, 25, 0), -10000);
            x.lies(1, 0, 0, 7, 0);
            spanIs(x, 1, 0, 7, 7);
            spanIs(x, 1, 30, -23, 37);
            spanIs(x, 0, 30, -30, 30);
            for (int out = 31; out <= 41; out++) {
                dues.due("too wide by out " + out, x.span(0, 0, out, 0), -10000);
            }
            dues.due("out -1", x.span(0, 0, -1, 0), -10000);
            x.lies(1, 0, 0, -5, 0);
            x.gone(1, 0, 1);
            spanIs(x, 1, 0, -5, -5);
            x.lies(1, 0, 1, 9, 0);
            x.gone(1, 0, 0);
            spanIs(x, 1, 2, 7, 11);
            NailStain far = Dues.shipOf(3000, -3000, 0);
            spanIs(far, 0, 30, 2970, 3030);
            spanIs(far, 1, 30, -3030, -2970);
        });
        document.promise(22, "SPAN of a STRAKE at a STATION, so much farther out, what 0 the low end, 1 the high one;"
                + " -10000: none is told, no such ones.", () -> {
            NailStain x = new NailStain();
            dues.due("no ship", x.span(0, 0, 0, 0), -10000);
            x.build(3, 2);
            dues.due("the last of all", x.span(1, 2, 30, 1), 30);
            int[][] refused = {{2, 0, 0, 0}, {-1, 0, 0, 0}, {0, 3, 0, 0}, {0, -1, 0, 0}, {0, 0, 41, 0}, {0, 0, -1, 0},
                {0, 0, 0, 2}, {0, 0, 0, -1}};
            for (int[] one : refused) {
                dues.due("no such ones", x.span(one[0], one[1], one[2], one[3]), -10000);
            }
            x.cut(7);
            dues.due("none is told", x.span(0, 0, 0, 0), -10000);
        });
    }

    private void unseen() {
        document.term("A STATION of which nothing is seen: from the least low end to the greatest high one of the next"
                + " ones on either side of which something is.", () -> {
            NailStain x = Dues.shipOf(10, 99, 99, 40, 20, 99);
            x.lies(3, 0, 1, 35, 0);
            x.cut(1 << 1 | 1 << 2 | 1 << 5);
            spanIs(x, 1, 0, 10, 40);
            spanIs(x, 2, 0, 10, 40);
            spanIs(x, 2, 7, 3, 47);
            spanIs(x, 5, 0, 20, 20);
            spanIs(x, 5, 7, 13, 27);
            x.cut(0x1f);
            spanIs(x, 0, 0, 99, 99);
            spanIs(x, 4, 3, 96, 102);
            x.cut(0x3e);
            spanIs(x, 5, 1, 9, 11);
            x.cut(1 | 1 << 1 | 1 << 2);
            spanIs(x, 0, 0, 35, 40);
            x.cut(1 << 4);
            x.lies(5, 0, 0, 36, 0);
            x.lies(5, 0, 1, 38, 0);
            x.lies(1, 0, 0, 12, 0);
            x.lies(1, 0, 1, 12, 0);
            x.lies(2, 0, 0, 12, 0);
            x.lies(2, 0, 1, 12, 0);
            spanIs(x, 4, 0, 35, 40);
            NailStain wide = Dues.shipOf(0, 500, 61, 61);
            wide.cut(2);
            dues.due("61 wide between two", wide.span(0, 1, 0, 0), -10000);
            wide.lies(2, 0, 0, 60, 0);
            wide.lies(2, 0, 1, 60, 0);
            spanIs(wide, 1, 0, 0, 60);
            dues.due("62 wide by out 1", wide.span(0, 1, 1, 0), -10000);
            NailStain big = new NailStain();
            Dues.rule(big, "yf(1=1)");
            big.build(24, 1);
            big.cut(0xfffffe);
            spanIs(big, 23, 2, -2, 2);
            big.cut(0x7fffff);
            spanIs(big, 0, 2, 21, 25);
            big.cut(0x7ffffe);
            spanIs(big, 1, 0, 0, 23);
            spanIs(big, 22, 0, 0, 23);
        });
    }

    private void untold() {
        document.term("No STATION seen, or a SPAN of more than 60: none is told.", () -> {
            NailStain x = Dues.shipOf(0, 0, 0, 0);
            x.lies(3, 0, 1, 60, 0);
            spanIs(x, 3, 0, 0, 60);
            dues.due("squares", x.batten(0, 0, -1), 0);
            x.lies(3, 0, 1, 61, 0);
            for (int f = 0; f < 4; f++) {
                dues.due("none at " + f, x.span(0, f, 0, 0), -10000);
            }
            dues.due("no batten", x.batten(0, 0, 0), -1000000);
            dues.due("nothing lost", x.lost(0, 0, 0), -1);
            x.cut(8);
            spanIs(x, 3, 0, 0, 0);
            x.cut(15);
            dues.due("no station is seen", x.span(0, 0, 0, 0), -10000);
            x.cut(14);
            spanIs(x, 3, 0, 0, 0);
            x.gone(0, 0, 0);
            spanIs(x, 3, 0, 0, 0);
            x.gone(0, 0, 1);
            dues.due("neither side is seen", x.span(0, 0, 0, 0), -10000);
            NailStain y = new NailStain();
            y.build(3, 2);
            y.lies(0, 0, 0, 61, 0);
            dues.due("one strake is not told", y.batten(0, 0, -1), -1000000);
            dues.due("the other one is", y.batten(1, 0, -1), 0);
        });
    }

    private void rowIs(NailStain x, int out, long squares, int... ys) {
        dues.due("squares", x.batten(0, out, -1), squares);
        for (int f = 0; f < ys.length; f++) {
            dues.due("y at " + f, x.batten(0, out, f), ys[f]);
        }
    }

    private void battens() {
        document.term("THE BATTEN: y of all STATIONS, each within its SPAN, by which the squares of (y before less two"
                + " y and y behind), over STATIONS that have both, are together least; of like ones the least"
                + " row.", () -> {
            rowIs(Dues.shipOf(0, 10, 0), 0, 400, 0, 10, 0);
            rowIs(Dues.shipOf(0, 10, 0), 2, 144, 2, 8, 2);
            rowIs(Dues.shipOf(0, 10, 0), 4, 16, 4, 6, 4);
            rowIs(Dues.shipOf(0, 10, 0), 5, 0, 5, 5, 5);
            // 3, 5, 7 and 4, 5, 6 are as straight as 2, 4, 6: the least row begins lowest.
            rowIs(Dues.shipOf(0, 10, 0), 6, 0, 2, 4, 6);
            rowIs(Dues.shipOf(0, 0, 0), 0, 0, 0, 0, 0);
            rowIs(Dues.shipOf(0, 0, 0), 30, 0, -30, -30, -30);
            rowIs(Dues.shipOf(-3000, 3000, -3000), 0, 144000000, -3000, 3000, -3000);
            rowIs(Dues.shipOf(-3000, 3000, -3000), 30, 141134400, -2970, 2970, -2970);
            NailStain odd = Dues.shipOf(0, 0, 1);
            odd.lies(1, 0, 1, 1, 0);
            rowIs(odd, 0, 1, 0, 0, 1);
            NailStain third = Dues.shipOf(-3, 0, 0, 0, 0);
            third.lies(2, 0, 1, 1, 0);
            // With 0 in the middle the squares are 9, 0, 0; with 1 they are 4, 4, 1.
            rowIs(third, 0, 9, -3, 0, 0, 0, 0);
            NailStain end = Dues.shipOf(0, 5, 10);
            end.lies(0, 0, 1, 60, 0);
            rowIs(end, 0, 0, 0, 5, 10);
            NailStain unseen = Dues.shipOf(0, 0, 20, 30);
            unseen.cut(2);
            rowIs(unseen, 0, 0, 0, 10, 20, 30);
            straightThroughTheWidest();
        });
        document.promise(23, "THE BATTEN of a STRAKE, what NONE the squares together, else y of STATION what; -1000000:"
                + " none is told, no such ones.", () -> {
            NailStain x = new NailStain();
            dues.due("no ship, squares", x.batten(0, 0, -1), -1000000);
            dues.due("no ship, y", x.batten(0, 0, 0), -1000000);
            x.build(24, 8);
            dues.due("the last station", x.batten(7, 0, 23), 0);
            dues.due("its squares", x.batten(7, 0, -1), 0);
            int[][] refused = {{8, 0, 0}, {-1, 0, 0}, {0, 41, 0}, {0, -1, 0}, {0, 0, 24}, {0, 0, -2}};
            for (int[] one : refused) {
                dues.due("no such ones", x.batten(one[0], one[1], one[2]), -1000000);
            }
            x.build(3, 1);
            dues.due("station 2 of 3", x.batten(0, 0, 2), 0);
            dues.due("station 3 of 3", x.batten(0, 0, 3), -1000000);
            x.cut(7);
            dues.due("no squares are told", x.batten(0, 0, -1), -1000000);
            dues.due("no y is told", x.batten(0, 0, 0), -1000000);
        });
    }

    /** Both ends are told, so that one row alone is straight; it goes through spans of 60 now low, now high. */
    private void straightThroughTheWidest() {
        NailStain x = new NailStain();
        x.build(24, 1);
        for (int f = 0; f < 24; f++) {
            boolean isEnd = f == 0 || f == 23;
            int low = isEnd ? 7 * f : 7 * f - f * 13 % 61;
            x.lies(f, 0, 0, low, 0);
            x.lies(f, 0, 1, isEnd ? low : low + 60, 0);
        }
        dues.due("straight", x.batten(0, 0, -1), 0);
        for (int f = 0; f < 24; f++) {
            dues.due("straight at " + f, x.batten(0, 0, f), 7 * f);
        }
    }

    private void lost() {
        document.term("LOST: beyond the last STATION (end 1; or ahead of the first, end 0)", () -> {
            NailStain x = Dues.shipOf(6, 8, 9, 5);
            dues.due("end 0", x.lost(0, 0, 0), 3);
            dues.due("end 1", x.lost(0, 0, 1), 2);
            dues.due("end 2", x.lost(0, 0, 2), -1);
            dues.due("end -1", x.lost(0, 0, -1), -1);
        });
        document.term("by the two last y of THE BATTEN on as straight: how many STATIONS more until y is 0 or below (0:"
                + " it is); told if y grows less.", () -> {
            lostIs(0, 1, 0, 0);
            lostIs(-1, 0, 0, 0);
            lostIs(1, 2, 1, 1);
            lostIs(1, 3, 1, 1);
            lostIs(2, 3, 2, 2);
            lostIs(2, 4, 1, 1);
            lostIs(3, 5, 2, 2);
            lostIs(4, 6, 2, 2);
            lostIs(5, 7, 3, 3);
            lostIs(2999, 3000, 2999, 2999);
            lostIs(-3000, 3000, 0, 0);
            lostIs(1, 3000, 1, 1);
        });
        document.promise(24, "LOST beyond an end by a STRAKE; -2: y does not grow less (asked first)", () -> {
            lostIs(5, 5, -2, -2);
            lostIs(5, 4, -2, -2);
            lostIs(0, 0, -2, -2);
            lostIs(0, -1, -2, -2);
            lostIs(-5, -5, -2, -2);
            lostIs(-5, -6, -2, -2);
        });
        document.promise(24, "NONE: none is told, no such ones.", () -> {
            NailStain x = new NailStain();
            dues.due("no ship", x.lost(0, 0, 0), -1);
            x.build(3, 1);
            dues.due("told", x.lost(0, 30, 1), -2);
            int[][] refused = {{1, 0, 0}, {-1, 0, 0}, {0, 41, 0}, {0, 31, 0}, {0, -1, 0}, {0, 0, 2}, {0, 0, -1}};
            for (int[] one : refused) {
                dues.due("no such ones", x.lost(one[0], one[1], one[2]), -1);
            }
            x.cut(7);
            dues.due("none is told", x.lost(0, 0, 0), -1);
        });
    }

    /** An end at y, the next one in at another: what is lost beyond the first end, and the same way beyond the last. */
    private void lostIs(int last, int inner, int first, int end) {
        NailStain ahead = Dues.shipOf(last, inner, -2000, 1500, 700);
        NailStain beyond = Dues.shipOf(700, 1500, -2000, inner, last);
        dues.due(last + " by " + inner + " ahead", ahead.lost(0, 0, 0), first);
        dues.due(last + " by " + inner + " beyond", beyond.lost(0, 0, 1), end);
    }
}
