import java.util.List;

/** Edges of the ship, the sand and what is seen: the rest of the terms of ==== 1, promises 1 to 3 and 8 to 14. */
final class EdgesOfShip {
    private final Sentences document;
    private final Dues dues;

    EdgesOfShip(Sentences document, Dues dues) {
        this.document = document;
        this.dues = dues;
    }

    void tryAll() {
        fresh();
        numbers();
        building();
        mounds();
        burying();
        luck();
        telling();
        rivets();
        cutting();
    }

    private void fresh() {
        document.promise(1, "No ship, TEXTS, DRAWINGS, STORIES; THE SEED 1.", () -> {
            NailStain x = new NailStain();
            for (int what = -1; what <= 14; what++) {
                boolean isOther = what < 0 || what > 9;
                dues.due("count(" + what + ") of a new one", x.count(what), isOther ? -1 : what == 3 ? 1 : 0);
            }
            dues.due("no ship", x.bury(1), -1);
            dues.due("no stain", x.lasts(1, 100), -2);
            dues.due("no drawing", x.draw(0, 0, 0, 0), -1);
            dues.due("no story", x.next(0), -1);
            dues.due("of no story", x.odds(-1), 0);
            dues.due("build", x.build(3, 1), 6);
            dues.due("no rule", x.rivet(2, 0, 1, 0), 0);
            dues.due("no sand", x.bury(9), 6);
            dues.due("the seed was 1", x.count(3), Dues.chance(1, 54));
        });
        document.term("The constants: `NONE = -1`: There is none.", () -> dues.due("NONE", NailStain.NONE, -1));
        document.term("All memory is the digger's own.", () -> {
            NailStain x = Views.withShip(3);
            List<Long> before = Views.seen(x);
            NailStain other = new NailStain();
            Dues.rule(other, "y9(1=1)");
            Dues.sand(other, "g1000(f=1);a5(1=1)");
            Dues.stain(other, "e1(1=1)");
            other.build(24, 8);
            other.pitch(7);
            other.cut(5);
            other.drawing(1);
            other.draw(0, 3, 3, 500);
            other.size(0, 0, 0, 50);
            other.thole(0, 0, 0);
            other.mound(1, 999);
            other.phosphor(0, 0, 999);
            other.story(0, 0, 1);
            other.sign(0, 1);
            other.bury(3);
            other.seed(5);
            other.feed(1, 2, 3, 4, 5);
            dues.yes("another object changes nothing", Views.seen(x).equals(before));
            dues.yes("nor what comes behind", Views.seenBehind(x).equals(Views.seenBehind(Views.withShip(3))));
        });
        document.first("An object is used for at most 512 calls after it has been made", () -> {
            NailStain x = new NailStain();
            x.build(3, 1);
            for (int call = 2; call <= 511; call++) {
                x.lies(0, 0, call % 2, call, -call);
            }
            dues.due("the 512th call", x.rivet(0, 0, 1, 0), 511);
        });
    }

    private void numbers() {
        document.term("so far apart (1 to 1000: THE PITCH; 100 at first)", () -> {
            NailStain x = new NailStain();
            x.build(3, 1);
            dues.due("100 at first", x.length(0, 0), 200);
            dues.yes("pitch(1)", x.pitch(1));
            dues.due("by 1", x.length(0, 0), 2);
            dues.yes("pitch(1000)", x.pitch(1000));
            dues.due("by 1000", x.length(0, 0), 2000);
        });
        document.promise(2, "THE PITCH: true; false: no such number.", () -> {
            NailStain x = new NailStain();
            x.build(3, 1);
            x.pitch(7);
            int[] refused = {0, 1001, -1, Integer.MIN_VALUE, Integer.MAX_VALUE};
            for (int n : refused) {
                dues.no("pitch(" + n + ")", x.pitch(n));
                dues.due("it stays", x.length(0, 0), 14);
            }
        });
        document.promise(3, "THE SEED (0 to 65535; X, too): true; false: no such number.", () -> {
            NailStain x = new NailStain();
            int[] taken = {0, 1, 65534, 65535};
            for (int seed : taken) {
                dues.yes("seed(" + seed + ")", x.seed(seed));
                dues.due("X, too", x.count(3), seed);
            }
            int[] refused = {-1, 65536, 65537, Integer.MIN_VALUE, Integer.MAX_VALUE};
            for (int seed : refused) {
                dues.no("seed(" + seed + ")", x.seed(seed));
                dues.due("X stays", x.count(3), 65535);
            }
            x.build(3, 1);
            x.bury(1);
            dues.due("on from there", x.count(3), Dues.chance(65535, 6));
        });
    }

    private void building() {
        document.term("STATIONS 0 to 23 along the ship", () -> {
            NailStain x = new NailStain();
            x.build(24, 1);
            dues.due("station 0", x.rivet(0, 0, 0, 4), 1);
            dues.due("station 23", x.rivet(23, 0, 0, 4), 1);
            dues.due("station 24", x.rivet(24, 0, 0, 4), -10000);
            dues.due("station -1", x.rivet(-1, 0, 0, 4), -10000);
            x.build(3, 1);
            dues.due("station 2 of 3", x.rivet(2, 0, 0, 4), 1);
            dues.due("station 3 of 3", x.rivet(3, 0, 0, 4), -10000);
        });
        document.term("STRAKES 0 to 7, SIDES 0, 1.", () -> {
            NailStain x = new NailStain();
            x.build(3, 8);
            dues.due("strake 7", x.rivet(0, 7, 0, 4), 1);
            dues.due("strake 8", x.rivet(0, 8, 0, 4), -10000);
            dues.due("strake -1", x.rivet(0, -1, 0, 4), -10000);
            dues.due("side 1", x.rivet(0, 7, 1, 4), 1);
            dues.due("side 2", x.rivet(0, 7, 2, 4), -10000);
            dues.due("side -1", x.rivet(0, 7, -1, 4), -10000);
            x.build(3, 1);
            dues.due("strake 1 of 1", x.rivet(0, 1, 0, 4), -10000);
        });
        document.term("BUILT: n STATIONS (3 to 24) by k STRAKES (1 to 8): each RIVET by THE RULE.", () -> {
            NailStain x = new NailStain();
            Dues.rule(x, "yf*100+s*10+d(1=1);z0-f-s-d(1=1)");
            int[][] ships = {{3, 1}, {24, 1}, {3, 8}, {24, 8}};
            for (int[] ship : ships) {
                dues.due("build", x.build(ship[0], ship[1]), 2 * ship[0] * ship[1]);
                int f = ship[0] - 1;
                int s = ship[1] - 1;
                dues.due("the first rivet", x.rivet(0, 0, 0, 0), 0);
                dues.due("y of the last rivet", x.rivet(f, s, 1, 0), f * 100 + s * 10 + 1);
                dues.due("z of the last rivet", x.rivet(f, s, 1, 1), -f - s - 1);
            }
        });
        document.promise(8, "how many RIVETS; NONE: no such numbers.", () -> {
            NailStain x = new NailStain();
            int[][] refused = {{2, 1}, {25, 1}, {3, 0}, {3, 9}, {0, 0}, {-3, -1}, {24, -8}, {Integer.MAX_VALUE, 8},
                {24, Integer.MIN_VALUE}};
            for (int[] ship : refused) {
                dues.due("build", x.build(ship[0], ship[1]), -1);
                dues.due("no ship", x.count(0) + x.count(1) + x.count(2), 0);
            }
            x.build(5, 2);
            x.size(4, 1, 1, 7);
            x.drawing(1);
            for (int[] ship : refused) {
                dues.due("build", x.build(ship[0], ship[1]), -1);
                dues.due("the ship stays", x.count(0) * 100 + x.count(1) * 10 + x.count(8), 521);
                dues.due("a size stays", x.rivet(4, 1, 1, 3), 7);
            }
        });
        document.promise(8, "BUILT, in place of what was there (RIVETS, SIZES, DRAWINGS, CUT AWAY, tholes"
                + " fall)", () -> {
            NailStain x = new NailStain();
            x.build(24, 8);
            x.lies(2, 0, 1, 77, 78);
            x.gone(1, 0, 1);
            x.gone(23, 7, 1);
            x.size(2, 0, 0, 9);
            x.size(23, 7, 1, 9);
            for (int k = 0; k < 4; k++) {
                x.drawing(1900);
                x.draw(k, 0, 0, 0);
            }
            x.cut(0xffffff);
            x.thole(2, 0, 1);
            x.thole(23, 1, 0);
            dues.due("a lesser ship", x.build(3, 1), 6);
            dues.due("rivets", x.count(2), 6);
            dues.due("y", x.rivet(2, 0, 1, 0), 0);
            dues.due("z", x.rivet(2, 0, 1, 1), 0);
            dues.due("sizes", x.rivet(2, 0, 0, 3), 0);
            dues.due("repairs", x.repairs(0, 0, 1), 0);
            dues.due("drawings", x.count(8), 0);
            dues.due("marks", x.count(10), -1);
            dues.due("cut away", x.rivet(2, 0, 0, 4), 1);
            dues.due("tholes", x.oars(2), 0);
            dues.due("room for a drawing", x.drawing(2), 0);
            dues.due("without marks", x.marked(0, 2, 0, 1, 0), -10000);
            dues.due("none of the first rivet", x.marked(0, 0, 0, 0, 0), -10000);
            dues.due("none at all", x.count(10), 0);
            dues.due("the greatest ship again", x.build(24, 8), 384);
            dues.due("its rivets", x.count(2), 384);
            dues.due("its last size", x.rivet(23, 7, 1, 3), 0);
            dues.due("its tholes", x.oars(2), 0);
        });
    }

    private void mounds() {
        document.term("MOUND: a weight on each STATION (0 to 1000; 0 at first).", () -> {
            NailStain x = new NailStain();
            Dues.sand(x, "bm(1=1)");
            x.build(24, 1);
            x.mound(0, 1000);
            x.mound(1, 1);
            x.mound(23, 999);
            x.mound(2, 5);
            x.mound(2, 0);
            x.bury(1);
            int[] want = {1000, 1, 0, 0};
            for (int f = 0; f < 4; f++) {
                dues.due("z below the mound of " + f, x.rivet(f, 0, 0, 1), want[f]);
            }
            dues.due("z below the last mound", x.rivet(23, 0, 1, 1), 999);
        });
        document.promise(9, "The MOUND on a STATION (0 to 23): true; false: no such ones.", () -> {
            NailStain x = new NailStain();
            dues.yes("without a ship", x.mound(23, 1000));
            dues.yes("station 0", x.mound(0, 0));
            x.build(3, 1);
            dues.yes("beyond the ship", x.mound(3, 7));
            dues.no("station 24", x.mound(24, 7));
            dues.no("station -1", x.mound(-1, 7));
            dues.no("weight 1001", x.mound(0, 1001));
            dues.no("weight -1", x.mound(0, -1));
            Dues.sand(x, "bm(1=1)");
            x.bury(1);
            dues.due("it stays 0", x.rivet(0, 0, 0, 1), 0);
        });
    }

    private void burying() {
        document.term("BURIED in so many rounds (1 to 9): in each round", () -> {
            for (int rounds = 1; rounds <= 9; rounds++) {
                NailStain x = new NailStain();
                Dues.sand(x, "a1(1=1);b0-2(1=1)");
                x.build(3, 1);
                dues.due("bury(" + rounds + ")", x.bury(rounds), 6);
                dues.due("y", x.rivet(2, 0, 1, 0), rounds);
                dues.due("z", x.rivet(2, 0, 1, 1), -2 * rounds);
                dues.due("luck", x.count(3), Dues.chance(1, 6 * rounds));
            }
        });
        document.promise(10, "BURIED: how many RIVETS are not GONE; NONE: no ship, no such rounds.", () -> {
            NailStain x = new NailStain();
            Dues.sand(x, "a1(1=1);g1000(f=1)");
            dues.due("no ship", x.bury(1), -1);
            dues.due("no luck was asked", x.count(3), 1);
            x.build(3, 1);
            int[] refused = {0, 10, -1, Integer.MIN_VALUE, Integer.MAX_VALUE};
            for (int rounds : refused) {
                dues.due("bury(" + rounds + ")", x.bury(rounds), -1);
                dues.due("y stays", x.rivet(0, 0, 0, 0), 0);
                dues.due("X stays", x.count(3), 1);
            }
            dues.due("all but two", x.bury(1), 4);
            Dues.sand(x, "g1000(1=1)");
            dues.due("none", x.bury(1), 0);
            int luck = x.count(3);
            dues.due("none again", x.bury(9), 0);
            dues.due("no luck for those gone", x.count(3), luck);
        });
        document.term("by STATIONS, then STRAKES, then SIDES, each RIVET that is not GONE", () -> {
            NailStain x = new NailStain();
            Dues.sand(x, "ax(1=1)");
            x.build(3, 2);
            x.gone(0, 0, 0);
            x.gone(1, 1, 1);
            x.gone(2, 1, 1);
            x.bury(1);
            int chance = 1;
            for (int i = 0; i < 12; i++) {
                boolean isGone = i == 0 || i == 7 || i == 11;
                chance = isGone ? chance : Dues.chance(chance, 1);
                dues.due("y of rivet " + i, x.rivet(i / 4, i / 2 % 2, i % 2, 0), isGone ? 0 : chance % 1000);
            }
            dues.due("X then", x.count(3), chance);
        });
        document.term("else y and z more by a and b (held to -3000 to 3000; all by THE SAND as it was ahead of it in"
                + " this round)", () -> {
            NailStain x = new NailStain();
            x.build(3, 1);
            Dues.sand(x, "a1(1=1);b0-1(1=1)");
            x.lies(0, 0, 0, 2999, -2999);
            x.lies(0, 0, 1, 3000, -3000);
            x.lies(1, 0, 0, -3000, 3000);
            x.bury(1);
            atRivet(x, 0, 0, 3000, -3000);
            atRivet(x, 0, 1, 3000, -3000);
            atRivet(x, 1, 0, -2999, 2999);
            Dues.sand(x, "a0-1000(1=1);b1000(1=1)");
            x.bury(9);
            atRivet(x, 0, 0, -3000, 3000);
            atRivet(x, 1, 0, -3000, 3000);
            x.lies(2, 0, 0, 5, 7);
            Dues.sand(x, "az(1=1);by(1=1)");
            x.bury(2);
            atRivet(x, 2, 0, 24, 24);
            x.lies(2, 0, 0, 5, 7);
            Dues.sand(x, "by(1=1);az(1=1);g1000(z=12)");
            x.bury(2);
            dues.due("gone by z of the round before", x.rivet(2, 0, 0, 2), 1);
            atRivet(x, 2, 0, 12, 12);
        });
    }

    private void atRivet(NailStain x, int station, int side, int y, int z) {
        dues.due("y of " + station + ", " + side, x.rivet(station, 0, side, 0), y);
        dues.due("z of " + station + ", " + side, x.rivet(station, 0, side, 1), z);
    }

    private void luck() {
        document.term("X = (25173 X + 13849) modulo 65536 (X is THE SEED at first, 1), LUCK is X modulo 1000: GONE if"
                + " that is below g", () -> {
            int[] seeds = {0, 1, 65535, 32768, 40000};
            int[] want = {13849, 39022, 54212, 46617, 38745};
            for (int i = 0; i < seeds.length; i++) {
                NailStain x = new NailStain();
                Dues.sand(x, "ax(1=1)");
                x.build(3, 1);
                for (int rivet = 1; rivet < 6; rivet++) {
                    x.gone(rivet / 2, 0, rivet % 2);
                }
                x.seed(seeds[i]);
                x.bury(1);
                dues.due("X behind " + seeds[i], x.count(3), want[i]);
                dues.due("luck behind " + seeds[i], x.rivet(0, 0, 0, 0), want[i] % 1000);
            }
            gone(0, 1, 1);
            gone(0, 0, 0);
            gone(22, 22, 0);
            gone(22, 23, 1);
            gone(999, 999, 0);
            gone(999, 1000, 1);
        });
    }

    private void gone(int luck, int g, int want) {
        NailStain x = new NailStain();
        Dues.sand(x, "a9(1=1);b9(1=1);g" + g + "(1=1)");
        x.build(3, 1);
        x.seed(Dues.seedOf(luck));
        x.bury(1);
        dues.due("gone by luck " + luck + " and g " + g, x.rivet(0, 0, 0, 2), want);
        atRivet(x, 0, 0, want == 1 ? 0 : 9, want == 1 ? 0 : 9);
    }

    private void telling() {
        document.term("A RIVET: of a STATION, STRAKE, SIDE: at y across (from the middle out, either SIDE) and z deep,"
                + " both -3000 to 3000", () -> {
            NailStain x = new NailStain();
            x.build(3, 1);
            dues.yes("the least", x.lies(0, 0, 0, -3000, -3000));
            atRivet(x, 0, 0, -3000, -3000);
            dues.yes("the greatest", x.lies(0, 0, 0, 3000, 3000));
            atRivet(x, 0, 0, 3000, 3000);
            int[][] refused = {{-3001, 0}, {3001, 0}, {0, -3001}, {0, 3001}};
            for (int[] place : refused) {
                dues.no("lies", x.lies(0, 0, 0, place[0], place[1]));
                atRivet(x, 0, 0, 3000, 3000);
            }
            x.build(24, 8);
            for (int i = 0; i < 384; i++) {
                x.lies(i / 16, i / 2 % 8, i % 2, i, -i);
            }
            for (int i = 0; i < 384; i++) {
                dues.due("its own y", x.rivet(i / 16, i / 2 % 8, i % 2, 0), i);
                dues.due("its own z", x.rivet(i / 16, i / 2 % 8, i % 2, 1), -i);
            }
        });
        document.term("A RIVET can be told where it lies, too (then it is not GONE), or that it is GONE.", () -> {
            NailStain x = new NailStain();
            x.build(3, 1);
            x.gone(0, 0, 0);
            dues.due("five are left", x.count(2), 5);
            dues.yes("told", x.lies(0, 0, 0, 1, 2));
            dues.due("not gone", x.rivet(0, 0, 0, 2), 0);
            dues.due("six", x.count(2), 6);
            dues.yes("told again", x.lies(0, 0, 0, 3, 4));
            atRivet(x, 0, 0, 3, 4);
        });
        document.promise(11, "Where a RIVET lies is told: true; false: no such ones.", () -> {
            NailStain x = new NailStain();
            dues.no("no ship", x.lies(0, 0, 0, 0, 0));
            x.build(3, 1);
            x.gone(0, 0, 0);
            dues.no("y", x.lies(0, 0, 0, 3001, 0));
            dues.due("still gone", x.rivet(0, 0, 0, 2), 1);
            dues.no("station 3", x.lies(3, 0, 0, 0, 0));
            dues.no("strake 1", x.lies(0, 1, 0, 0, 0));
            dues.no("side 2", x.lies(0, 0, 2, 0, 0));
            x.cut(1);
            dues.yes("where it is cut away", x.lies(0, 0, 0, 5, 6));
            dues.due("not seen", x.rivet(0, 0, 0, 4), 0);
        });
        document.promise(12, "A RIVET is GONE: true; false: no such one, it is.", () -> {
            NailStain x = new NailStain();
            dues.no("no ship", x.gone(0, 0, 0));
            x.build(3, 1);
            dues.yes("gone", x.gone(2, 0, 1));
            dues.no("it is", x.gone(2, 0, 1));
            dues.due("one is", x.count(2), 5);
            int[][] refused = {{3, 0, 0}, {-1, 0, 0}, {0, 1, 0}, {0, -1, 0}, {0, 0, 2}, {0, 0, -1}};
            for (int[] rivet : refused) {
                dues.no("no such one", x.gone(rivet[0], rivet[1], rivet[2]));
            }
            dues.due("no other one is", x.count(2), 5);
            x.lies(2, 0, 1, 0, 0);
            dues.yes("gone again", x.gone(2, 0, 1));
            Dues.sand(x, "g1000(1=1)");
            x.bury(1);
            dues.no("gone in the sand", x.gone(0, 0, 0));
        });
    }

    private void rivets() {
        document.promise(13, "-10000: no such ones (0, 1 of GONE ones: where they were last).", () -> {
            NailStain x = new NailStain();
            dues.due("no ship", x.rivet(0, 0, 0, 2), -10000);
            x.build(3, 1);
            x.lies(1, 0, 0, 8, -9);
            x.gone(1, 0, 0);
            dues.due("y of one that is gone", x.rivet(1, 0, 0, 0), 8);
            dues.due("z of one that is gone", x.rivet(1, 0, 0, 1), -9);
            Dues.sand(x, "a5(1=1);b6(1=1);g1000(t=0&y=5)");
            x.lies(0, 0, 0, 0, 0);
            x.bury(3);
            dues.due("y where it went", x.rivet(0, 0, 0, 0), 5);
            dues.due("z where it went", x.rivet(0, 0, 0, 1), 6);
            dues.due("it stays as it went", x.rivet(1, 0, 0, 0), 8);
            int[] whats = {-1, 5, Integer.MIN_VALUE, Integer.MAX_VALUE};
            for (int what : whats) {
                dues.due("what " + what, x.rivet(0, 0, 0, what), -10000);
            }
        });
        document.promise(13, "Of a RIVET, what 0 y, 1 z, 2 whether it is GONE (1, 0), 3 SIZE, 4 whether it is seen (1,"
                + " 0)", () -> {
            NailStain x = new NailStain();
            x.build(3, 1);
            int[][] want = {{10, 20, 0, 0, 1}, {11, 21, 1, 99, 0}, {12, 22, 0, 0, 0}, {13, 23, 1, 1, 0}};
            for (int i = 0; i < 4; i++) {
                x.lies(i / 2, 0, i % 2, 10 + i, 20 + i);
            }
            x.gone(0, 0, 1);
            x.size(0, 0, 1, 99);
            x.gone(1, 0, 1);
            x.size(1, 0, 1, 1);
            x.cut(2);
            for (int i = 0; i < 4; i++) {
                for (int what = 0; what < 5; what++) {
                    dues.due("rivet " + i + " what " + what, x.rivet(i / 2, 0, i % 2, what), want[i][what]);
                }
            }
        });
    }

    private void cutting() {
        document.term("CUT AWAY: a set of STATIONS (by a robber, a ditch): nothing is seen there.", () -> {
            NailStain x = new NailStain();
            x.build(24, 1);
            x.cut(1 << 23 | 1);
            for (int f = 0; f < 24; f++) {
                dues.due("is it seen at " + f, x.rivet(f, 0, 1, 4), f == 0 || f == 23 ? 0 : 1);
            }
            x.drawing(1);
            dues.due("drawn", x.draw(0, 0, 0, 0), 44);
            x.cut(0xffffff);
            dues.due("no line", x.batten(0, 0, -1), -1000000);
        });
        document.promise(14, "CUT AWAY: a set of STATIONS, as bits, in place of the one before: true; false: there are"
                + " not such ones.", () -> {
            NailStain x = new NailStain();
            dues.yes("none, without a ship", x.cut(0));
            dues.no("one, without a ship", x.cut(1));
            x.build(3, 1);
            dues.yes("the last", x.cut(4));
            dues.due("cut", x.rivet(2, 0, 0, 4), 0);
            int[] refused = {8, 9, 15, -1, 1 << 24, 1 << 31, Integer.MAX_VALUE};
            for (int set : refused) {
                dues.no("cut(" + set + ")", x.cut(set));
                dues.due("the one before stays", x.rivet(0, 0, 0, 4) * 10 + x.rivet(2, 0, 0, 4), 10);
            }
            dues.yes("the first", x.cut(1));
            dues.due("in place of the one before", x.rivet(0, 0, 0, 4) * 10 + x.rivet(2, 0, 0, 4), 1);
            dues.yes("all", x.cut(7));
            dues.yes("none", x.cut(0));
            dues.due("all are seen", x.rivet(0, 0, 0, 4) + x.rivet(1, 0, 0, 4) + x.rivet(2, 0, 0, 4), 3);
            x.build(24, 1);
            dues.yes("all of 24", x.cut(0xffffff));
            dues.no("a 25th", x.cut(0x1000000));
        });
    }
}
