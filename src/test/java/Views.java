import java.util.ArrayList;
import java.util.List;

/** Objects made ready for a call, and all that can be seen of one: what a refused call must leave as it is. */
final class Views {
    private static final int STATIONS = 4;
    private static final int STRAKES = 2;
    /** Twenty bytes that are a rule, so that it can be seen what is left on the tape. */
    private static final String ON_THE_TAPE = "y77(1=1);z9(f=2|s=1)";

    private Views() {
    }

    /** All but a ship: texts, a mound, phosphor, stories 0, 1 and 5, and a tape of twenty bytes. */
    static NailStain withoutShip() {
        NailStain x = withEmptyTape();
        Dues.put(x, ON_THE_TAPE);
        return x;
    }

    private static NailStain withEmptyTape() {
        NailStain x = new NailStain();
        x.pitch(90);
        x.seed(777);
        Dues.rule(x, "y40+c*5+s*20(1=1);z10+f(1=1)");
        Dues.sand(x, "a1+s(1=1);b2+m/100(1=1);g50(1=1)");
        Dues.stain(x, "e7+w/10(1=1)");
        x.mound(1, 300);
        x.mound(23, 5);
        x.phosphor(0, 0, 8);
        x.phosphor(7, 3, 50);
        x.phosphor(11, 5, 9);
        x.story(0, 0, 300);
        x.story(1, 3, 400);
        x.story(5, 5, 700);
        x.sign(3, 0);
        x.sign(5, 1);
        return x;
    }

    /** A ship of four stations by two strakes, both sides at like y; so many drawings have all its rivets. */
    static NailStain withShip(int drawings) {
        NailStain x = withShipAndEmptyTape(drawings);
        Dues.put(x, ON_THE_TAPE);
        return x;
    }

    static NailStain withShipAndEmptyTape(int drawings) {
        NailStain x = withEmptyTape();
        x.build(STATIONS, STRAKES);
        x.lies(2, 1, 0, 70, 9);
        x.lies(2, 1, 1, 70, 8);
        for (int k = 0; k < drawings; k++) {
            x.drawing(1900 + k);
            x.draw(k, 10 * k, -k, 100 * k);
        }
        x.gone(3, 1, 1);
        x.cut(8);
        for (int f = 0; f < STATIONS; f++) {
            x.size(f, 0, 0, 10 + f);
            x.size(f, 1, 1, 10);
            x.thole(f, 0, 1);
        }
        x.thole(1, 1, 0);
        return x;
    }

    /** All that calls tell that change nothing. */
    static List<Long> seen(NailStain x) {
        List<Long> seen = new ArrayList<>();
        for (int what = -1; what <= 14; what++) {
            seen.add((long) x.count(what));
        }
        seenOfRivets(x, seen);
        seenOfDrawings(x, seen);
        seenOfLines(x, seen);
        for (int what = 0; what < 4; what++) {
            seen.add((long) x.oars(what));
            seen.add(x.pair(what, 0));
            seen.add(x.pair(what, 1));
            seen.add(x.repairs(1, 1, what));
        }
        return seen;
    }

    private static void seenOfRivets(NailStain x, List<Long> seen) {
        for (int i = 0; i < STATIONS * STRAKES * 2; i++) {
            for (int what = 0; what < 5; what++) {
                seen.add((long) x.rivet(i / 4, i / 2 % 2, i % 2, what));
            }
        }
    }

    private static void seenOfDrawings(NailStain x, List<Long> seen) {
        for (int i = 0; i < STATIONS * STRAKES * 2; i++) {
            for (int k = 0; k < 4; k++) {
                seen.add((long) x.marked(k, i / 4, i / 2 % 2, i % 2, 0));
                seen.add((long) x.marked(k, i / 4, i / 2 % 2, i % 2, 1));
            }
        }
    }

    private static void seenOfLines(NailStain x, List<Long> seen) {
        for (int strake = 0; strake < STRAKES; strake++) {
            for (int what = -1; what < STATIONS; what++) {
                seen.add(x.batten(strake, 0, what));
            }
            seen.add((long) x.length(strake, 0));
        }
    }

    /** What can be seen of phosphor, stories, signs, texts, mounds, the pitch, X and the tape: this changes some. */
    static List<Long> seenBehind(NailStain x) {
        List<Long> seen = new ArrayList<>();
        for (int i = 0; i < 72; i++) {
            seen.add((long) x.body(1 + i / 6, 1 + i % 6, 2));
        }
        for (int i = -1; i < 6; i++) {
            seen.add(x.odds(i));
            x.sign(i, 1);
            seen.add((long) x.next(0));
            seen.add((long) x.next(1));
        }
        seen.add((long) x.pace(77));
        seen.add((long) x.lasts(5000, 50));
        seen.add((long) x.bury(2));
        seenOfRivets(x, seen);
        seen.add((long) x.build(STATIONS, STRAKES));
        seenOfRivets(x, seen);
        seen.add((long) x.count(4));
        seen.add((long) x.rule(ON_THE_TAPE.length()));
        seen.add((long) x.build(24, 1));
        seen.add((long) x.bury(1));
        for (int f = 0; f < 24; f++) {
            seen.add((long) x.rivet(f, 0, 1, 0));
            seen.add((long) x.rivet(f, 0, 1, 1));
        }
        seen.add((long) x.count(3));
        return seen;
    }
}
