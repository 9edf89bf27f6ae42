/** Edges of repairs, oars, a body, stories and signs: the rest of the terms of ==== 3, promises 25 to 35. */
final class EdgesOfFinds {
    private final Sentences document;
    private final Dues dues;

    EdgesOfFinds(Sentences document, Dues dues) {
        this.document = document;
        this.dues = dues;
    }

    void tryAll() {
        sizes();
        odd();
        repairs();
        tholes();
        pairs();
        phosphor();
        body();
        stories();
        odds();
        next();
    }

    private void sizes() {
        document.term("REPAIRS: a RIVET has a SIZE (1 to 99; told, 0: not; 60 RIVETS at most)", () -> {
            NailStain x = new NailStain();
            x.build(24, 2);
            dues.due("not told at first", x.rivet(0, 0, 0, 3), 0);
            dues.yes("1", x.size(0, 0, 0, 1));
            dues.due("1", x.rivet(0, 0, 0, 3), 1);
            dues.yes("99", x.size(0, 0, 0, 99));
            dues.due("99", x.rivet(0, 0, 0, 3), 99);
            dues.due("one has a size", x.repairs(0, 0, 1), 1);
            dues.yes("0", x.size(0, 0, 0, 0));
            dues.due("not told", x.repairs(0, 0, 1), 0);
            for (int i = 0; i < 60; i++) {
                dues.yes("size of " + i, x.size(i / 4, i / 2 % 2, i % 2, 5));
            }
            dues.due("thirty of strake 0", x.repairs(0, 0, 1), 30);
            dues.no("a 61st", x.size(15, 0, 0, 5));
            dues.due("it has none", x.rivet(15, 0, 0, 3), 0);
            dues.due("thirty still", x.repairs(0, 0, 1), 30);
        });
        document.promise(25, "SIZE of a RIVET (0 to 99): true; false: no such ones, 60 others have one.", () -> {
            NailStain x = new NailStain();
            dues.no("no ship", x.size(0, 0, 0, 1));
            x.build(24, 8);
            dues.yes("the last rivet", x.size(23, 7, 1, 7));
            int[][] refused = {{-1, 0, 0, 1}, {24, 0, 0, 1}, {0, -1, 0, 1}, {0, 8, 0, 1}, {0, 0, -1, 1}, {0, 0, 2, 1},
                {23, 7, 1, -1}, {23, 7, 1, 100}};
            for (int[] one : refused) {
                dues.no("no such ones", x.size(one[0], one[1], one[2], one[3]));
                dues.due("its size stays", x.rivet(23, 7, 1, 3), 7);
            }
            for (int i = 0; i < 59; i++) {
                x.size(i / 16, i / 2 % 8, i % 2, 5);
            }
            dues.no("60 others have one", x.size(20, 0, 0, 1));
            dues.yes("59 others have one", x.size(23, 7, 1, 8));
            dues.due("told anew", x.rivet(23, 7, 1, 3), 8);
            dues.yes("not told any more", x.size(0, 0, 0, 0));
            dues.yes("the 60th again", x.size(20, 0, 0, 1));
            dues.no("60 others again", x.size(0, 0, 0, 1));
            x.build(24, 8);
            dues.yes("none has one then", x.size(20, 0, 0, 1));
        });
    }

    private void oddIs(NailStain x, int strake, int much, int odd, int of) {
        dues.due("odd by more than " + much, x.repairs(strake, much, 0), odd);
        dues.due("of how many", x.repairs(strake, much, 1), of);
    }

    private void odd() {
        document.term("ODD are those with a SIZE that is farther from the SIZE most RIVETS have (of like ones the"
                + " least) than so much.", () -> {
            NailStain x = new NailStain();
            x.build(5, 2);
            x.size(0, 0, 0, 50);
            oddIs(x, 0, 0, 0, 1);
            x.size(0, 0, 1, 99);
            oddIs(x, 0, 48, 1, 2);
            oddIs(x, 0, 49, 0, 2);
            x.size(1, 0, 0, 1);
            // One of each: the least, 1, is the usual one.
            oddIs(x, 0, 48, 2, 3);
            oddIs(x, 0, 49, 1, 3);
            oddIs(x, 0, 97, 1, 3);
            oddIs(x, 0, 98, 0, 3);
            oddIs(x, 0, 99, 0, 3);
            oddIs(x, 0, 0, 2, 3);
            x.size(1, 1, 0, 99);
            // Now most have 99, by one of the other strake.
            oddIs(x, 0, 0, 2, 3);
            oddIs(x, 0, 48, 2, 3);
            oddIs(x, 0, 49, 1, 3);
            oddIs(x, 0, 98, 0, 3);
            oddIs(x, 1, 0, 0, 1);
            x.size(1, 1, 1, 50);
            // As many have 50 as 99: the least.
            oddIs(x, 0, 0, 2, 3);
            oddIs(x, 1, 48, 1, 2);
            oddIs(x, 1, 49, 0, 2);
            x.gone(0, 0, 1);
            x.cut(2);
            oddIs(x, 1, 48, 1, 2);
            for (int usual = 1; usual < 100; usual++) {
                oneUsual(usual);
            }
        });
        document.term("ODDS that by lot as many of those RIVETS with a SIZE that are of a STRAKE or more would be ODD:"
                + " a fraction.", () -> {
            NailStain x = new NailStain();
            x.build(5, 2);
            fractionIs(x, 0, 0, 1, 1);
            for (int f = 0; f < 3; f++) {
                x.size(f, 0, 0, 10);
                x.size(f, 1, 0, f == 0 ? 10 : 20);
            }
            // Two odd of six, three of them of strake 1: both with one of the other four, 4 of 20.
            fractionIs(x, 1, 9, 1, 5);
            fractionIs(x, 1, 10, 1, 1);
            fractionIs(x, 0, 0, 1, 1);
            x.size(0, 0, 0, 21);
            // Three odd: one or more of strake 0 in all but one of 20; two or more of strake 1 in 10 of 20.
            fractionIs(x, 0, 9, 19, 20);
            fractionIs(x, 1, 9, 1, 2);
            for (int f = 0; f < 3; f++) {
                x.size(f, 0, 0, 0);
            }
            fractionIs(x, 1, 9, 1, 1);
            fractionIs(x, 0, 9, 1, 1);
        });
    }

    /** Two of one size, and one each of the least and the greatest. */
    private void oneUsual(int usual) {
        NailStain x = new NailStain();
        x.build(3, 1);
        x.size(0, 0, 0, 1);
        x.size(0, 0, 1, 99);
        x.size(1, 0, 0, usual);
        x.size(1, 0, 1, usual);
        dues.due("most have " + usual, x.repairs(0, 0, 0), usual == 1 || usual == 99 ? 1 : 2);
        dues.due("farther than the least is", x.repairs(0, usual - 1, 0), 99 - usual > usual - 1 ? 1 : 0);
    }

    private void fractionIs(NailStain x, int strake, int much, long above, long below) {
        dues.due("above the line", x.repairs(strake, much, 2), above);
        dues.due("below the line", x.repairs(strake, much, 3), below);
    }

    private void repairs() {
        document.promise(26, "REPAIRS of a STRAKE by more than so much (0 to 99), what 0 how many ODD, 1 of how many, 2"
                + " above, 3 below the line, without a common divisor; -1: no such ones, no ship.", () -> {
            NailStain x = new NailStain();
            dues.due("no ship", x.repairs(0, 0, 0), -1);
            x.build(24, 8);
            int[][] refused = {{-1, 0, 0}, {8, 0, 0}, {0, -1, 0}, {0, 100, 0}, {0, 0, -1}, {0, 0, 4}};
            for (int[] one : refused) {
                dues.due("no such ones", x.repairs(one[0], one[1], one[2]), -1);
            }
            oddIs(x, 7, 99, 0, 0);
            fractionIs(x, 7, 99, 1, 1);
            for (int i = 0; i < 60; i++) {
                x.size(i % 15, i / 30, i / 15 % 2, i < 30 ? 1 : 99);
            }
            // As many have 1 as 99: all thirty of strake 1 are odd, in one way of C(60, 30).
            oddIs(x, 1, 97, 30, 30);
            oddIs(x, 1, 98, 0, 30);
            oddIs(x, 0, 0, 0, 30);
            fractionIs(x, 1, 97, 1, 118264581564861424L);
            fractionIs(x, 0, 97, 1, 1);
        });
    }

    private void oarsAre(NailStain x, int... want) {
        for (int what = 0; what < 4; what++) {
            dues.due("oars(" + what + ")", x.oars(what), want[what]);
        }
    }

    private void tholes() {
        document.term("OARS: at each STATION and SIDE a thole was SEEN (1), was not there (0), or is not known (-1, at"
                + " first; CUT AWAY: not known): pairs of oars: the least (both SIDES SEEN), the greatest (neither SIDE"
                + " not there)", () -> {
            for (int left = -1; left <= 1; left++) {
                for (int right = -1; right <= 1; right++) {
                    NailStain x = new NailStain();
                    x.build(3, 1);
                    oarsAre(x, 0, 3, 0, 0);
                    x.thole(2, 0, left);
                    x.thole(2, 1, right);
                    int known = (left >= 0 ? 1 : 0) + (right >= 0 ? 1 : 0);
                    int seen = (left == 1 ? 1 : 0) + (right == 1 ? 1 : 0);
                    oarsAre(x, seen == 2 ? 1 : 0, seen == known ? 3 : 2, known, seen);
                    x.cut(4);
                    oarsAre(x, 0, 3, 0, 0);
                    x.cut(3);
                    oarsAre(x, seen == 2 ? 1 : 0, seen == known ? 3 : 2, known, seen);
                }
            }
        });
        document.promise(27, "A thole of a STATION and SIDE (-1, 0, 1): true; false: no such ones.", () -> {
            NailStain x = new NailStain();
            dues.no("no ship", x.thole(0, 0, 1));
            x.build(24, 1);
            dues.yes("the last", x.thole(23, 1, 1));
            int[][] refused = {{-1, 0, 1}, {24, 0, 1}, {0, -1, 1}, {0, 2, 1}, {23, 1, -2}, {23, 1, 2}};
            for (int[] one : refused) {
                dues.no("no such ones", x.thole(one[0], one[1], one[2]));
                oarsAre(x, 0, 24, 1, 1);
            }
            dues.yes("not there", x.thole(23, 1, 0));
            oarsAre(x, 0, 23, 1, 0);
            dues.yes("not known", x.thole(23, 1, -1));
            oarsAre(x, 0, 24, 0, 0);
            x.build(3, 1);
            dues.no("beyond the ship", x.thole(3, 0, 1));
            x.cut(1);
            dues.yes("where it is cut away", x.thole(0, 0, 1));
        });
        document.promise(28, "OARS, what 0 the least, 1 the greatest, 2 known tholes, 3 SEEN ones; NONE for others, no"
                + " ship.", () -> {
            NailStain x = new NailStain();
            oarsAre(x, -1, -1, -1, -1);
            x.build(24, 1);
            for (int i = 0; i < 48; i++) {
                x.thole(i / 2, i % 2, 1);
            }
            oarsAre(x, 24, 24, 48, 48);
            int[] whats = {-1, 4, Integer.MIN_VALUE, Integer.MAX_VALUE};
            for (int what : whats) {
                dues.due("oars(" + what + ")", x.oars(what), -1);
            }
            x.cut(0xffffff);
            oarsAre(x, 0, 24, 0, 0);
        });
    }

    private void pairIs(NailStain x, int station, long above, long below) {
        dues.due("above the line of " + station, x.pair(station, 0), above);
        dues.due("below the line of " + station, x.pair(station, 1), below);
    }

    private void pairs() {
        document.term("and ODDS, if each unknown one were so by lot as those known ones are (of known ones so many"
                + " SEEN): that all of a told STATION's would be", () -> {
            NailStain x = new NailStain();
            x.build(24, 1);
            x.thole(0, 0, 1);
            pairIs(x, 0, 1, 1);
            pairIs(x, 5, 1, 1);
            x.thole(0, 0, 0);
            pairIs(x, 0, 0, 1);
            pairIs(x, 5, 0, 1);
            for (int i = 0; i < 46; i++) {
                x.thole(i / 2, i % 2, i == 45 ? 0 : 1);
            }
            pairIs(x, 0, 1, 1);
            pairIs(x, 22, 0, 1);
            pairIs(x, 23, 2025, 2116);
            x.thole(23, 0, 1);
            pairIs(x, 23, 46, 47);
            x.thole(23, 0, 0);
            pairIs(x, 23, 0, 1);
            x.cut(1 << 23 | 1);
            // Two fewer are known: 43 SEEN of 44.
            pairIs(x, 23, 1849, 1936);
            pairIs(x, 0, 1849, 1936);
        });
        document.promise(29, "ODDS that both tholes of a STATION were, what 0 above, 1 below the line, without a common"
                + " divisor; -2: none is known; -1: no such ones.", () -> {
            NailStain x = new NailStain();
            dues.due("no ship", x.pair(0, 0), -1);
            x.build(3, 1);
            pairIs(x, 0, -2, -2);
            int[][] refused = {{-1, 0}, {3, 0}, {0, -1}, {0, 2}};
            for (int[] one : refused) {
                dues.due("no such ones, none known", x.pair(one[0], one[1]), -1);
            }
            x.thole(0, 0, 1);
            x.thole(0, 1, 1);
            x.thole(1, 0, 0);
            x.thole(1, 1, 0);
            pairIs(x, 2, 1, 4);
            for (int[] one : refused) {
                dues.due("no such ones", x.pair(one[0], one[1]), -1);
            }
            x.cut(3);
            pairIs(x, 2, -2, -2);
            pairIs(x, 0, -2, -2);
        });
    }

    private void bodyIs(NailStain x, int w, int h, int... want) {
        for (int what = 0; what < 5; what++) {
            dues.due("body(" + w + ", " + h + ", " + what + ")", x.body(w, h, what), want[what]);
        }
    }

    private void phosphor() {
        document.term("A BODY: PHOSPHOR of CELLS (12 by 6; 0 to 999 each; 0 at first)", () -> {
            NailStain x = new NailStain();
            dues.due("0 at first", x.body(12, 6, 2), 0);
            for (int i = 0; i < 72; i++) {
                dues.yes("cell " + i, x.phosphor(i % 12, i / 12, 999));
            }
            dues.due("all full", x.body(12, 6, 2), 72 * 999);
            bodyIs(x, 1, 1, 0, 0, 999, 72, 72);
            dues.yes("0 again", x.phosphor(11, 5, 0));
            dues.due("one less", x.body(12, 6, 2), 71 * 999);
        });
        document.promise(30, "PHOSPHOR of a CELL (column 0 to 11, row 0 to 5): true; false: no such ones.", () -> {
            NailStain x = new NailStain();
            dues.yes("the last cell", x.phosphor(11, 5, 7));
            int[][] refused = {{-1, 5, 1}, {12, 5, 1}, {11, -1, 1}, {11, 6, 1}, {11, 5, -1}, {11, 5, 1000}};
            for (int[] one : refused) {
                dues.no("no such ones", x.phosphor(one[0], one[1], one[2]));
                dues.due("all as it was", x.body(12, 6, 2), 7);
            }
            bodyIs(x, 1, 1, 11, 5, 7, 1, 72);
            x.phosphor(0, 0, 8);
            bodyIs(x, 1, 1, 0, 0, 8, 1, 72);
        });
    }

    private void body() {
        document.term("the place of a shape of w by h CELLS with most in it; of like ones the first by rows (row by"
                + " row, column by column); RANK: how many places have as much or more, of how many.", () -> {
            NailStain x = new NailStain();
            bodyIs(x, 1, 1, 0, 0, 0, 72, 72);
            bodyIs(x, 2, 3, 0, 0, 0, 44, 44);
            bodyIs(x, 12, 6, 0, 0, 0, 1, 1);
            x.phosphor(0, 1, 5);
            x.phosphor(11, 0, 5);
            bodyIs(x, 1, 1, 11, 0, 5, 2, 72);
            bodyIs(x, 12, 1, 0, 0, 5, 2, 6);
            bodyIs(x, 12, 2, 0, 0, 10, 1, 5);
            bodyIs(x, 1, 6, 0, 0, 5, 2, 12);
            x.phosphor(11, 5, 5);
            bodyIs(x, 1, 6, 11, 0, 10, 1, 12);
            bodyIs(x, 2, 2, 0, 0, 5, 4, 55);
            x.phosphor(10, 4, 1);
            bodyIs(x, 2, 2, 10, 4, 6, 1, 55);
        });
        document.promise(31, "A BODY of w by h CELLS, what 0 column, 1 row, 2 how much, 3 RANK, 4 of how many places;"
                + " NONE: no such ones.", () -> {
            NailStain x = new NailStain();
            bodyIs(x, 12, 1, 0, 0, 0, 6, 6);
            bodyIs(x, 1, 6, 0, 0, 0, 12, 12);
            int[][] refused = {{0, 1, 0}, {13, 1, 0}, {1, 0, 0}, {1, 7, 0}, {1, 1, -1}, {1, 1, 5}, {-1, -1, 4}};
            for (int[] one : refused) {
                dues.due("no such ones", x.body(one[0], one[1], one[2]), -1);
            }
        });
    }

    private void stories() {
        document.term("STORIES 0 to 5: each says of SIGNS 0 to 5 by how many thousandths they would show (0 to"
                + " 1000).", () -> {
            NailStain x = new NailStain();
            for (int k = 0; k < 6; k++) {
                dues.due("told ones", x.count(9), k);
                dues.due("not told", x.odds(k), -1);
                dues.yes("story " + k, x.story(k, 5 - k, k % 2 == 0 ? 0 : 1000));
            }
            dues.due("six", x.count(9), 6);
            for (int i = 0; i < 6; i++) {
                x.sign(i, 1);
                dues.due("story " + (5 - i) + " by sign " + i, x.odds(5 - i), i % 2 == 0 ? 1000 : 0);
                x.sign(i, 0);
                dues.due("story " + (5 - i) + " without sign " + i, x.odds(5 - i), i % 2 == 0 ? 0 : 1000);
                x.sign(i, -1);
            }
        });
        document.promise(32, "A STORY says of SIGN i so many thousandths (the STORY is told then): true; false: no such"
                + " ones.", () -> {
            NailStain x = new NailStain();
            int[][] refused = {{-1, 0, 0}, {6, 0, 0}, {0, -1, 0}, {0, 6, 0}, {0, 0, -1}, {0, 0, 1001}};
            for (int[] one : refused) {
                dues.no("no such ones", x.story(one[0], one[1], one[2]));
                dues.due("none is told", x.count(9), 0);
            }
            dues.yes("told by 0", x.story(0, 0, 0));
            dues.due("one", x.count(9), 1);
            dues.yes("told again", x.story(0, 0, 1000));
            dues.due("one still", x.count(9), 1);
            x.sign(0, 1);
            dues.due("by the last", x.odds(0), 1000);
            for (int[] one : refused) {
                x.story(one[0], one[1], one[2]);
                dues.due("it stays", x.odds(0), 1000);
            }
            x.sign(1, 1);
            dues.due("0 of signs that it was not told of", x.odds(0), 0);
        });
        document.term("SIGNS were seen (1), were not (0), or are not known (-1, at first).", () -> {
            NailStain x = new NailStain();
            for (int i = 0; i < 6; i++) {
                x.story(0, i, 1);
            }
            dues.due("none is known at first", x.odds(0), 1);
            dues.due("so the first may be next", x.next(0), 0);
            for (int i = 0; i < 6; i++) {
                x.sign(i, 0);
                dues.due("was not", x.odds(0), 999);
                x.sign(i, 1);
                dues.due("was seen", x.odds(0), 1);
                x.sign(i, -1);
                dues.due("not known", x.odds(0), 1);
            }
        });
        document.promise(33, "A SIGN was seen (1), was not (0), is not known (-1): true; false: no such ones.", () -> {
            NailStain x = new NailStain();
            x.story(0, 0, 300);
            x.story(0, 5, 900);
            dues.due("none is known at first", x.odds(0), 1);
            dues.yes("seen", x.sign(0, 1));
            dues.due("seen", x.odds(0), 300);
            dues.yes("the last one was not", x.sign(5, 0));
            dues.due("was not", x.odds(0), 300 * 100);
            int[][] refused = {{-1, 0}, {6, 0}, {0, 2}, {0, -2}};
            for (int[] one : refused) {
                dues.no("no such ones", x.sign(one[0], one[1]));
                dues.due("all as it was", x.odds(0), 300 * 100);
            }
            dues.yes("not known", x.sign(0, -1));
            dues.due("not known", x.odds(0), 100);
        });
    }

    private void odds() {
        document.term("ODDS: products over SIGNS that are known (thousandths, or 1000 less them), whole numbers; only"
                + " told STORIES.", () -> {
            NailStain x = new NailStain();
            for (int i = 0; i < 6; i++) {
                x.story(2, i, 1000);
                x.story(4, i, 999);
                x.sign(i, 1);
            }
            dues.due("the greatest", x.odds(2), 1000000000000000000L);
            dues.due("a little less", x.odds(4), 994014980014994001L);
            dues.due("of both", x.odds(-1), 1994014980014994001L);
            x.sign(3, 0);
            dues.due("0", x.odds(2), 0);
            dues.due("1 by five of 999", x.odds(4), 995009990004999L);
            dues.due("of both then", x.odds(-1), 995009990004999L);
        });
        document.promise(34, "ODDS of STORY k (NONE: of all together); -1: no such one, it is not told.", () -> {
            NailStain x = new NailStain();
            dues.due("of none together", x.odds(-1), 0);
            int[] refused = {0, 5, 6, -2, Integer.MIN_VALUE, Integer.MAX_VALUE};
            for (int k : refused) {
                dues.due("story " + k, x.odds(k), -1);
            }
            x.story(5, 0, 0);
            dues.due("of the last", x.odds(5), 1);
            dues.due("of all", x.odds(-1), 1);
            dues.due("one that is not told", x.odds(0), -1);
            x.sign(0, 1);
            dues.due("told, and 0", x.odds(5), 0);
            dues.due("told, and 0 together", x.odds(-1), 0);
            for (int k = 0; k < 6; k++) {
                for (int i = 0; i < 6; i++) {
                    x.story(k, i, 1000);
                    x.sign(i, 1);
                }
            }
            dues.due("the greatest together", x.odds(-1), 6000000000000000000L);
        });
    }

    private void next() {
        document.term("NEXT: the SIGN that is not known that parts most: over pairs of told STORIES whose ODDS are not"
                + " 0 how far their thousandths are apart, together: greatest; of like ones the lowest.", () -> {
            NailStain x = new NailStain();
            for (int k = 0; k < 6; k++) {
                x.story(k, 5, k < 3 ? 0 : 1000);
                x.story(k, 4, k < 3 ? 0 : 1000);
                x.story(k, 3, k < 3 ? 0 : 999);
            }
            nextIs(x, 4, 9000);
            x.sign(4, 1);
            // Only stories 3, 4 and 5 are left, and they say the same.
            nextIs(x, 0, 0);
            x.story(5, 5, 999);
            nextIs(x, 5, 2);
            x.story(5, 0, 2);
            nextIs(x, 0, 4);
            x.sign(0, 0);
            nextIs(x, 5, 2);
            x.sign(4, -1);
            nextIs(x, 4, 9000);
        });
        document.promise(35, "NEXT, what 0 the SIGN, 1 by how much; NONE: all are known, no such what, no STORY is"
                + " told.", () -> {
            NailStain x = new NailStain();
            nextIs(x, -1, -1);
            x.story(3, 5, 700);
            nextIs(x, 0, 0);
            int[] whats = {-1, 2, Integer.MIN_VALUE, Integer.MAX_VALUE};
            for (int what : whats) {
                dues.due("what " + what, x.next(what), -1);
            }
            for (int i = 0; i < 5; i++) {
                x.sign(i, 0);
                nextIs(x, i + 1, 0);
            }
            x.sign(5, 1);
            nextIs(x, -1, -1);
            x.sign(2, -1);
            nextIs(x, 2, 0);
            x.sign(2, 1);
            dues.due("its odds are 0", x.odds(3), 0);
            x.sign(5, -1);
            nextIs(x, 5, 0);
        });
    }

    private void nextIs(NailStain x, int sign, int much) {
        dues.due("the next sign", x.next(0), sign);
        dues.due("by how much", x.next(1), much);
    }
}
