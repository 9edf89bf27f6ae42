/** Edges of areas, volumes, planks, stains, checks and counts: the terms of ==== 4, promises 36 to 44. */
final class EdgesOfHull {
    private final Sentences document;
    private final Dues dues;

    EdgesOfHull(Sentences document, Dues dues) {
        this.document = document;
        this.dues = dues;
    }

    void tryAll() {
        areas();
        volumes();
        depths();
        paces();
        lengths();
        joints();
        refusedJoints();
        lasting();
        checks();
        counts();
    }

    /** Three stations by three strakes; areas to strake 2 are 3 + 7, 0 + 4 and 0. */
    private static NailStain small() {
        NailStain x = new NailStain();
        x.build(3, 3);
        Dues.strake(x, 0, 1, -9, 0);
        Dues.strake(x, 1, 2, 0, -1);
        Dues.strake(x, 2, 5, 4, -3000);
        return x;
    }

    private static NailStain greatest() {
        NailStain x = new NailStain();
        Dues.rule(x, "y3000(1=1)");
        x.build(24, 8);
        x.pitch(1000);
        return x;
    }

    /** A ship that is as wide everywhere, its stations ten apart. */
    private static NailStain level(int stations, int strakes) {
        NailStain x = new NailStain();
        x.build(stations, strakes);
        x.pitch(10);
        return x;
    }

    private void areas() {
        document.term("WENT: by y of THE BATTEN of all STRAKES (0 the keel, each next one higher by so much: HEIGHT 1"
                + " to 200): AREA of a STATION to a water line at so many STRAKES w (0 to all less 1): between"
                + " neighbouring STRAKES below it the sums of their y times HEIGHT (both SIDES; y below 0 counts"
                + " 0)", () -> {
            NailStain x = small();
            dues.due("w 0", x.area(0, 200, 0, 0), 0);
            dues.due("w 1", x.area(0, 1, 0, 1), 3);
            dues.due("w 2", x.area(0, 1, 0, 2), 10);
            dues.due("w 3", x.area(0, 1, 0, 3), -1);
            dues.due("height 200", x.area(0, 200, 0, 2), 2000);
            dues.due("height 201", x.area(0, 201, 0, 2), -1);
            dues.due("height 0", x.area(0, 0, 0, 2), -1);
            dues.due("y below 0 counts 0", x.area(1, 1, 0, 1), 0);
            dues.due("with one above it", x.area(1, 1, 0, 2), 4);
            dues.due("all below 0", x.area(2, 200, 0, 2), 0);
            dues.due("of the greatest", greatest().area(23, 200, 0, 7), 7 * 6000 * 200);
            NailStain one = level(3, 1);
            dues.due("of one strake", one.area(0, 1, 0, 0), 0);
            dues.due("of one strake, w 1", one.area(0, 1, 0, 1), -1);
        });
        document.promise(36, "AREA of a STATION to the water line; -1: THE BATTEN of some STRAKE is not told, no such"
                + " ones.", () -> {
            dues.due("no ship", new NailStain().area(0, 1, 0, 0), -1);
            NailStain x = small();
            int[][] refused = {{-1, 1, 0, 1}, {3, 1, 0, 1}, {0, 0, 0, 1}, {0, 201, 0, 1}, {0, 1, -1, 1}, {0, 1, 41, 1},
                {0, 1, 31, 1}, {0, 1, 0, -1}, {0, 1, 0, 3}};
            for (int[] one : refused) {
                dues.due("no such ones", x.area(one[0], one[1], one[2], one[3]), -1);
            }
            x.lies(2, 2, 0, -2939, 0);
            dues.due("the highest is not told", x.area(0, 1, 0, 0), -1);
            x.lies(2, 2, 0, -2940, 0);
            dues.due("it is told", x.area(0, 1, 0, 0), 0);
            x.lies(0, 0, 0, 62, 0);
            dues.due("the keel is not told", x.area(0, 1, 0, 2), -1);
            x.lies(0, 0, 0, 61, 0);
            dues.due("it is told", x.area(0, 1, 0, 0), 0);
        });
    }

    private void volumes() {
        document.term("VOLUME: between neighbouring STATIONS the sums of their AREAS, all together, times PITCH,"
                + " through 2 (rounded down).", () -> {
            NailStain x = small();
            x.pitch(1);
            // Areas to strake 1 are 3, 0, 0; to strake 2 they are 10, 4, 0.
            dues.due("3 through 2", x.volume(1, 0, 1), 1);
            dues.due("6 through 2", x.volume(2, 0, 1), 3);
            dues.due("14 + 4 through 2", x.volume(1, 0, 2), 9);
            x.pitch(3);
            dues.due("9 through 2", x.volume(1, 0, 1), 4);
            x.pitch(1000);
            dues.due("3000 through 2", x.volume(1, 0, 1), 1500);
            dues.due("the greatest", greatest().volume(200, 0, 7), 193200000000L);
        });
        document.promise(37, "VOLUME to the water line; -1 likewise.", () -> {
            dues.due("no ship", new NailStain().volume(1, 0, 0), -1);
            NailStain x = small();
            dues.due("w 0", x.volume(200, 0, 0), 0);
            int[][] refused = {{0, 0, 1}, {201, 0, 1}, {1, -1, 1}, {1, 41, 1}, {1, 31, 1}, {1, 0, -1}, {1, 0, 3}};
            for (int[] one : refused) {
                dues.due("no such ones", x.volume(one[0], one[1], one[2]), -1);
            }
            x.lies(0, 2, 0, 66, 0);
            dues.due("the highest is not told", x.volume(1, 0, 0), -1);
            x.cut(7);
            dues.due("none is told", x.volume(1, 0, 0), -1);
        });
    }

    private void depths() {
        document.term("DEPTH for a weight: the least w whose VOLUME is not below it.", () -> {
            NailStain x = small();
            x.pitch(1);
            int[][] want = {{0, 0}, {1, 1}, {2, 2}, {9, 2}, {10, -2}};
            for (int[] one : want) {
                dues.due("depth for " + one[0], x.depth(1, 0, one[0]), one[1]);
            }
            NailStain flat = level(3, 3);
            dues.due("no room at all, weight 0", flat.depth(1, 0, 0), 0);
            dues.due("no room at all, weight 1", flat.depth(1, 0, 1), -2);
        });
        document.promise(38, "DEPTH for a weight (0 to 2000000000); -2: none is enough; NONE: as volume(), no such"
                + " weight.", () -> {
            dues.due("no ship", new NailStain().depth(1, 0, 0), -1);
            NailStain x = small();
            dues.due("the greatest weight", x.depth(200, 0, 2000000000), -2);
            int[][] refused = {{1, 0, -1}, {1, 0, 2000000001}, {1, 0, Integer.MIN_VALUE}, {1, 0, Integer.MAX_VALUE}, {0, 0, 1},
                {201, 0, 1}, {1, -1, 1}, {1, 31, 1}, {1, 41, 1}};
            for (int[] one : refused) {
                dues.due("no such ones", x.depth(one[0], one[1], one[2]), -1);
            }
            dues.due("the greatest weight in the greatest", greatest().depth(200, 0, 2000000000), 1);
            x.cut(7);
            dues.due("not told, weight 0", x.depth(1, 0, 0), -1);
            dues.due("not told, the greatest weight", x.depth(1, 0, 2000000000), -1);
        });
    }

    private void paces() {
        document.term("PACE: the greatest whole number whose square is not above K times (STATIONS less 1) times"
                + " PITCH.", () -> {
            NailStain x = new NailStain();
            x.build(3, 1);
            x.pitch(1);
            int[][] want = {{1, 1}, {2, 2}, {3, 2}, {4, 2}, {5, 3}, {7, 3}, {8, 4}, {1000, 44}};
            for (int[] one : want) {
                dues.due("root of " + 2 * one[0], x.pace(one[0]), one[1]);
            }
            x.build(24, 1);
            x.pitch(1000);
            dues.due("root of 23000", x.pace(1), 151);
            dues.due("root of 23000000", x.pace(1000), 4795);
            x.pitch(23);
            dues.due("root of 23 times 23", x.pace(1), 23);
            x.pitch(22);
            dues.due("root of 23 times 22", x.pace(1), 22);
        });
        document.promise(39, "PACE by K (1 to 1000); NONE: no such one, no ship.", () -> {
            NailStain x = new NailStain();
            dues.due("no ship", x.pace(1), -1);
            x.build(3, 1);
            int[] refused = {0, -1, 1001, Integer.MIN_VALUE, Integer.MAX_VALUE};
            for (int k : refused) {
                dues.due("pace(" + k + ")", x.pace(k), -1);
            }
            x.cut(7);
            dues.due("it asks no line", x.pace(1), 14);
        });
    }

    private void lengths() {
        document.term("PLANKS for a STRAKE: its LENGTH: between neighbouring STATIONS the root (rounded down) of"
                + " squares of PITCH and of the difference of y of THE BATTEN", () -> {
            NailStain x = Dues.shipOf(0, 4, 0);
            x.pitch(3);
            dues.due("5 and 5", x.length(0, 0), 10);
            x.pitch(2);
            dues.due("the root of 20, twice", x.length(0, 0), 8);
            x.pitch(1);
            dues.due("the root of 17, twice", x.length(0, 0), 8);
            dues.due("straight", x.length(0, 2), 2);
            NailStain far = Dues.shipOf(-3000, 3000, -3000);
            far.pitch(1000);
            dues.due("the farthest", far.length(0, 0), 2 * 6082);
            far.pitch(1);
            dues.due("hardly apart", far.length(0, 0), 2 * 6000);
        });
        document.promise(40, "LENGTH of a STRAKE; NONE: as batten().", () -> {
            dues.due("no ship", new NailStain().length(0, 0), -1);
            NailStain x = level(24, 8);
            dues.due("the last strake", x.length(7, 30), 230);
            int[][] refused = {{-1, 0}, {8, 0}, {0, -1}, {0, 31}, {0, 41}};
            for (int[] one : refused) {
                dues.due("no such ones", x.length(one[0], one[1]), -1);
            }
            x.lies(0, 3, 0, 61, 0);
            dues.due("not told", x.length(3, 0), -1);
            dues.due("another one is", x.length(4, 0), 230);
            x.cut(0xffffff);
            dues.due("none is", x.length(4, 0), -1);
        });
    }

    private void jointsAre(NailStain x, int strake, int most, int... want) {
        String call = "strake " + strake + " of at most " + most;
        dues.due(call, x.joints(strake, 0, most, -1), want.length);
        for (int i = 0; i < want.length; i++) {
            dues.due(call + ", joint " + i, x.joints(strake, 0, most, i), want[i]);
        }
        dues.due(call + ", no such joint", x.joints(strake, 0, most, want.length), -3);
    }

    private void joints() {
        document.term("JOINTS: STATIONS (not the ends) at which planks meet, each plank not longer than a told"
                + " LENGTH", () -> {
            NailStain x = level(3, 1);
            jointsAre(x, 0, 20);
            jointsAre(x, 0, 19, 1);
            jointsAre(x, 0, 10, 1);
            dues.due("9", x.joints(0, 0, 9, -1), -2);
            dues.due("1", x.joints(0, 0, 1, -1), -2);
            x.pitch(1);
            jointsAre(x, 0, 1, 1);
            NailStain far = Dues.shipOf(-3000, 3000, -3000);
            jointsAre(far, 0, 12000);
            jointsAre(far, 0, 11999, 1);
            jointsAre(far, 0, 6000, 1);
            dues.due("5999", far.joints(0, 0, 5999, -1), -2);
            NailStain first = Dues.shipOf(900, 0, 0, 0);
            dues.due("the first plank is too long", first.joints(0, 0, 300, -1), -2);
            NailStain last = Dues.shipOf(0, 0, 0, 900);
            dues.due("the last plank is too long", last.joints(0, 0, 300, -1), -2);
            NailStain longest = new NailStain();
            Dues.rule(longest, "y0-3000(f%2=0);y3000(1=1)");
            longest.build(24, 1);
            longest.pitch(1000);
            // 16 planks of 6082 are 97312, a 17th would be too long.
            jointsAre(longest, 0, 100000, 7);
            NailStain all = level(24, 1);
            dues.due("all between the ends", all.joints(0, 0, 10, -1), 22);
            dues.due("the last of them", all.joints(0, 0, 10, 21), 22);
            dues.due("no end", all.joints(0, 0, 10, 22), -3);
        });
        document.term("no JOINT nearer than two STATIONS to one of the STRAKE below (as it is laid in turn from STRAKE"
                + " 0 on)", () -> {
            NailStain x = level(7, 4);
            jointsAre(x, 0, 30, 3);
            dues.due("one station is too near", x.joints(1, 0, 30, -1), -2);
            jointsAre(x, 0, 40, 2);
            jointsAre(x, 1, 40, 4);
            jointsAre(x, 2, 40, 2);
            jointsAre(x, 3, 40, 4);
            jointsAre(x, 0, 50, 1);
            jointsAre(x, 1, 50, 3);
            jointsAre(x, 2, 50, 1);
            jointsAre(x, 3, 60);
        });
        document.term("fewest JOINTS; of like ones the least row", () -> {
            NailStain x = level(9, 1);
            jointsAre(x, 0, 50, 3);
            jointsAre(x, 0, 40, 4);
            jointsAre(x, 0, 39, 2, 5);
            jointsAre(x, 0, 30, 2, 5);
            jointsAre(x, 0, 29, 2, 4, 6);
            jointsAre(x, 0, 20, 2, 4, 6);
        });
    }

    private void refusedJoints() {
        document.promise(41, "JOINTS of a STRAKE for planks of at most so much (1 to 100000), what NONE how many, else"
                + " the STATION of JOINT what; -2: it can't be (of this STRAKE or one below)", () -> {
            NailStain x = level(5, 3);
            dues.due("of this one", x.joints(0, 0, 9, -1), -2);
            dues.due("whatever is asked", x.joints(0, 0, 9, 0), -2);
            jointsAre(x, 0, 20, 2);
            dues.due("by the one below", x.joints(1, 0, 20, -1), -2);
            dues.due("one below can't be", x.joints(2, 0, 20, -1), -2);
            jointsAre(x, 2, 100000);
        });
        document.promise(41, "-3: THE BATTEN is not told (likewise), no such ones, no such JOINT.", () -> {
            dues.due("no ship", new NailStain().joints(0, 0, 100, -1), -3);
            NailStain x = level(5, 3);
            int[][] refused = {{-1, 0, 30, -1}, {3, 0, 30, -1}, {0, -1, 30, -1}, {0, 31, 30, -1}, {0, 41, 30, -1},
                {0, 0, 0, -1}, {0, 0, -1, -1}, {0, 0, 100001, -1}, {0, 0, 30, -2}, {0, 0, 30, 1},
                {0, 0, 30, Integer.MAX_VALUE}, {0, 0, 30, Integer.MIN_VALUE}};
            for (int[] one : refused) {
                dues.due("no such ones", x.joints(one[0], one[1], one[2], one[3]), -3);
            }
            x.lies(4, 1, 0, 61, 0);
            jointsAre(x, 0, 30, 1);
            dues.due("not told", x.joints(1, 0, 30, -1), -3);
            dues.due("one below is not told", x.joints(2, 0, 30, -1), -3);
            dues.due("not told, and one below can't be", x.joints(1, 0, 9, -1), -3);
            x.lies(4, 1, 0, 60, 0);
            dues.due("told", x.joints(1, 0, 9, -1), -2);
        });
    }

    private void lasting() {
        document.term("LASTS: a stain of strength v (1 to 10000), by how wet (0 to 100): how many years until it is 0"
                + " or below (2000 at most).", () -> {
            NailStain x = new NailStain();
            Dues.stain(x, "e1+w/50(1=1)");
            int[][] want = {{1, 0, 1}, {2, 0, 2}, {1999, 0, 1999}, {2000, 0, 2000}, {2001, 0, -2}, {10000, 0, -2},
                {4000, 50, 2000}, {4001, 50, -2}, {4000, 99, 2000}, {6000, 100, 2000}, {6001, 100, -2}, {2, 100, 1},
                {3, 100, 1}, {4, 100, 2}};
            for (int[] one : want) {
                dues.due("v " + one[0] + ", wet " + one[1], x.lasts(one[0], one[1]), one[2]);
            }
            Dues.stain(x, "e5(1=1)");
            dues.due("to 0 just then", x.lasts(10000, 0), 2000);
        });
        document.promise(42, "LASTS; -2: longer; NONE: no such ones.", () -> {
            NailStain x = new NailStain();
            dues.due("no stain", x.lasts(1, 0), -2);
            dues.due("no stain, the strongest", x.lasts(10000, 100), -2);
            Dues.stain(x, "e1000(1=1)");
            int[][] refused = {{0, 0}, {-1, 0}, {10001, 0}, {1, -1}, {1, 101}, {Integer.MIN_VALUE, 0}, {1, Integer.MAX_VALUE}};
            for (int[] one : refused) {
                dues.due("no such ones", x.lasts(one[0], one[1]), -1);
            }
            dues.due("a ship is not asked for", x.lasts(1, 0), 1);
        });
    }

    private void checks() {
        document.term("CHECK of a STRAKE: y of THE BATTEN by STATIONS: right, or the first number that is not"
                + " so.", () -> {
            NailStain x = Dues.shipOf(-3000, 0, 3000);
            int[][] tapes = {{-3000, 0, 3000, 9, 9}, {-2999, 0, 3000, 0, 0}, {3000, 0, 3000, 0, 0}, {-3000, 1, 2999, 0, 0},
                {-3000, 0, -3000, 0, 0}, {-3000, 0, 3000 + 65536, 0, 0}, {-3000 + (1 << 24), 0, 3000, 0, 0}};
            int[] want = {-1, 0, 0, 1, 2, 2, 0};
            for (int i = 0; i < tapes.length; i++) {
                x.feed(tapes[i][0], tapes[i][1], tapes[i][2], tapes[i][3], tapes[i][4]);
                dues.due("check " + i, x.check(0, 0, 3), want[i]);
                dues.due("empty then", x.count(4), 0);
            }
            NailStain big = level(24, 8);
            for (int i = 0; i < 11; i++) {
                big.feed(0, 0, 0, 0, 0);
            }
            dues.due("all 24", big.check(7, 0, 24), -1);
        });
        document.promise(43, "CHECK of a STRAKE by the first n numbers of the tape (four bytes each; empty"
                + " then)", () -> {
            NailStain x = Dues.shipOf(258, 258, 258);
            x.feed(0x00000102, 0x00000102, 0x00000102, 0x02010000, 0x00000201);
            dues.due("the highest byte first", x.check(0, 0, 3), -1);
            dues.due("empty then", x.count(4), 0);
            x.feed(0x02010000, 0x00000102, 0x00000102, 0, 0);
            dues.due("not the lowest first", x.check(0, 0, 3), 0);
            dues.due("empty then, too", x.count(4), 0);
            dues.due("nothing is left", x.check(0, 0, 1), -2);
        });
        document.promise(43, "NONE: right; else the place of the first number that is not so (n: some are"
                + " lacking)", () -> {
            NailStain x = Dues.shipOf(1, -2, 3);
            dues.due("none of an empty tape", x.check(0, 0, 0), 0);
            int[] want = {0, 1, 2, -1, 3, 3};
            for (int n = 0; n <= 5; n++) {
                x.feed(1, -2, 3, 0, 0);
                dues.due("the first " + n, x.check(0, 0, n), want[n]);
                dues.due("empty then", x.count(4), 0);
            }
            x.feed(1, -1, 3, 0, 0);
            dues.due("wrong ahead of what is lacking", x.check(0, 0, 2), 1);
            x.feed(1, -1, 3, 0, 0);
            dues.due("wrong ahead of what is too much", x.check(0, 0, 5), 1);
            for (int i = 0; i < 11; i++) {
                x.feed(1, -2, 3, 1, -2);
            }
            dues.due("all 55 of the tape", x.check(0, 0, 55), 3);
        });
        document.promise(43, "-2: THE BATTEN is not told, no such ones, it has not so many (the tape stays).", () -> {
            NailStain none = new NailStain();
            dues.due("no ship", none.check(0, 0, 0), -2);
            NailStain x = Dues.shipOf(1, -2, 3);
            dues.due("1 of an empty tape", x.check(0, 0, 1), -2);
            x.feed(1, -2, 3, 0, 0);
            int[][] refused = {{0, 0, 6}, {0, 0, -1}, {0, 0, Integer.MAX_VALUE}, {0, 0, 1 << 30}, {0, 0, Integer.MIN_VALUE},
                {1, 0, 3}, {-1, 0, 3}, {0, -1, 3}, {0, 31, 3}, {0, 41, 3}};
            for (int[] one : refused) {
                dues.due("no such ones", x.check(one[0], one[1], one[2]), -2);
                dues.due("the tape stays", x.count(4), 20);
            }
            x.cut(7);
            dues.due("not told", x.check(0, 0, 3), -2);
            dues.due("not told, none asked", x.check(0, 0, 0), -2);
            dues.due("the tape stays", x.count(4), 20);
            x.cut(0);
            dues.due("right", x.check(0, 0, 3), -1);
            for (int i = 0; i < 11; i++) {
                x.feed(1, -2, 3, 1, -2);
            }
            dues.due("56 of a full tape", x.check(0, 0, 56), -2);
            dues.due("the full tape stays", x.count(4), 220);
        });
    }

    private void counts() {
        document.promise(44, "10 + k MARKS of DRAWING k. NONE for others.", () -> {
            NailStain x = new NailStain();
            dues.due("no drawing yet", x.count(10), -1);
            x.build(24, 8);
            for (int k = 0; k < 4; k++) {
                dues.due("no drawing " + k, x.count(10 + k), -1);
                x.drawing(k);
                dues.due("no marks of " + k, x.count(10 + k), 0);
                x.mark(k, k, 0, 0, 0, 0);
                dues.due("one of " + k, x.count(10 + k), 1);
            }
            x.draw(3, 0, 0, 0);
            dues.due("all of 3", x.count(13), 384);
            int[] others = {-1, 14, 15, Integer.MIN_VALUE, Integer.MAX_VALUE};
            for (int what : others) {
                dues.due("count(" + what + ")", x.count(what), -1);
            }
        });
        document.promise(44, "0 STATIONS, 1 STRAKES, 2 RIVETS that are not GONE, 3 X, 4 bytes of the tape, 5, 6, 7"
                + " CLAUSES of THE RULE, THE SAND, THE STAIN, 8 DRAWINGS, 9 told STORIES", () -> {
            NailStain x = new NailStain();
            Dues.rule(x, "y1(1=1)");
            Dues.sand(x, "g1000(1=1);g1(1=1)");
            Dues.stain(x, "e1(1=1);e1(1=1);e1(1=1)");
            x.build(24, 8);
            x.drawing(1);
            x.seed(65535);
            x.story(0, 0, 0);
            x.story(5, 0, 0);
            for (int i = 0; i < 12; i++) {
                x.feed(0, 0, 0, 0, 0);
            }
            int[] want = {24, 8, 384, 65535, 220, 1, 2, 3, 1, 2};
            for (int what = 0; what < 10; what++) {
                dues.due("count(" + what + ")", x.count(what), want[what]);
            }
            x.gone(23, 7, 1);
            dues.due("all but one", x.count(2), 383);
            x.bury(1);
            dues.due("none", x.count(2), 0);
            x.rule(1);
            dues.due("an empty tape", x.count(4), 0);
            dues.due("the rule stays", x.count(5), 1);
        });
    }
}
