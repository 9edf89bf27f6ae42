import java.math.BigInteger;
import java.util.ArrayList;
import java.util.Arrays;
import java.util.HashMap;
import java.util.List;
import java.util.Map;
import java.util.TreeMap;

/** A second reading of the document, as plain as can be: slow, and free to use the library. */
final class SlowStain {
    private static final class Rivet {
        private int station;
        private int strake;
        private int side;
        private int y;
        private int z;
        private int size;
        private boolean gone;
    }

    private int pitch = 100;
    private long luck = 1;
    private final List<Byte> tape = new ArrayList<>();
    private final String[] texts = {"", "", ""};
    private int stations;
    private int strakes;
    private int cut;
    private final int[] mounds = new int[24];
    private List<Rivet> rivets = new ArrayList<>();
    private final List<Map<Rivet, int[]>> drawings = new ArrayList<>();
    private final Map<List<Integer>, Integer> tholes = new HashMap<>();
    private final int[][] cells = new int[6][12];
    private final Map<Integer, int[]> stories = new TreeMap<>();
    private final int[] signs = {-1, -1, -1, -1, -1, -1};
    private final Map<List<Integer>, int[]> battens = new HashMap<>();

    private static boolean out(int n, int least, int most) {
        return n < least || n > most;
    }

    public boolean pitch(int n) {
        if (out(n, 1, 1000)) {
            return false;
        }
        pitch = n;
        return true;
    }

    public boolean seed(int x) {
        if (out(x, 0, 65535)) {
            return false;
        }
        luck = x;
        return true;
    }

    public int feed(int a, int b, int c, int d, int e) {
        if (tape.size() + 20 > 220) {
            return -1;
        }
        for (int n : new int[] {a, b, c, d, e}) {
            for (byte one : java.nio.ByteBuffer.allocate(4).putInt(n).array()) {
                tape.add(one);
            }
        }
        return tape.size();
    }

    public int rule(int n) {
        return text(0, n, "yz");
    }

    public int sand(int n) {
        return text(1, n, "abg");
    }

    public int stain(int n) {
        return text(2, n, "e");
    }

    private int text(int which, int n, String starts) {
        if (out(n, 1, 200) || n > tape.size()) {
            return -1;
        }
        StringBuilder text = new StringBuilder();
        for (int i = 0; i < n; i++) {
            text.append((char) (tape.get(i) & 255));
        }
        tape.clear();
        int answer = SlowText.read(text.toString(), starts);
        if (answer > 0) {
            texts[which] = text.toString();
        }
        return answer;
    }

    private Map<Character, Integer> letters(Rivet r) {
        Map<Character, Integer> letters = new HashMap<>();
        letters.put('f', r.station);
        letters.put('s', r.strake);
        letters.put('d', r.side);
        letters.put('n', stations);
        letters.put('c', Math.min(r.station, stations - 1 - r.station));
        letters.put('k', strakes);
        return letters;
    }

    public int build(int n, int k) {
        if (out(n, 3, 24) || out(k, 1, 8)) {
            return -1;
        }
        stations = n;
        strakes = k;
        cut = 0;
        battens.clear();
        drawings.clear();
        tholes.clear();
        rivets = new ArrayList<>();
        for (int i = 0; i < n * k * 2; i++) {
            Rivet r = new Rivet();
            r.station = i / (2 * k);
            r.strake = i / 2 % k;
            r.side = i % 2;
            r.y = SlowText.value(texts[0], 'y', letters(r), -3000, 3000);
            r.z = SlowText.value(texts[0], 'z', letters(r), -3000, 3000);
            rivets.add(r);
        }
        return rivets.size();
    }

    public boolean mound(int station, int weight) {
        if (out(station, 0, 23) || out(weight, 0, 1000)) {
            return false;
        }
        mounds[station] = weight;
        return true;
    }

    private int draw() {
        luck = (25173 * luck + 13849) % 65536;
        return (int) (luck % 1000);
    }

    public int bury(int rounds) {
        if (stations == 0 || out(rounds, 1, 9)) {
            return -1;
        }
        battens.clear();
        for (int round = 0; round < rounds; round++) {
            for (Rivet r : rivets) {
                if (!r.gone) {
                    Map<Character, Integer> letters = letters(r);
                    letters.put('x', draw());
                    letters.put('y', r.y);
                    letters.put('z', r.z);
                    letters.put('m', mounds[r.station]);
                    r.gone = letters.get('x') < SlowText.value(texts[1], 'g', letters, 0, 1000);
                    if (!r.gone) {
                        r.y += SlowText.value(texts[1], 'a', letters, -1000, 1000);
                        r.z += SlowText.value(texts[1], 'b', letters, -1000, 1000);
                        r.y = Math.max(-3000, Math.min(3000, r.y));
                        r.z = Math.max(-3000, Math.min(3000, r.z));
                    }
                }
            }
        }
        return count(2);
    }

    private Rivet find(int station, int strake, int side) {
        for (Rivet r : rivets) {
            if (r.station == station && r.strake == strake && r.side == side) {
                return r;
            }
        }
        return null;
    }

    public boolean lies(int station, int strake, int side, int y, int z) {
        Rivet r = find(station, strake, side);
        if (r == null || Math.abs((long) y) > 3000 || Math.abs((long) z) > 3000) {
            return false;
        }
        r.y = y;
        r.z = z;
        r.gone = false;
        battens.clear();
        return true;
    }

    public boolean gone(int station, int strake, int side) {
        Rivet r = find(station, strake, side);
        if (r == null || r.gone) {
            return false;
        }
        r.gone = true;
        battens.clear();
        return true;
    }

    private boolean seen(Rivet r) {
        return !r.gone && (cut & 1 << r.station) == 0;
    }

    public int rivet(int station, int strake, int side, int what) {
        Rivet r = find(station, strake, side);
        if (r == null || out(what, 0, 4)) {
            return -10000;
        }
        return new int[] {r.y, r.z, r.gone ? 1 : 0, r.size, seen(r) ? 1 : 0}[what];
    }

    public boolean cut(int set) {
        for (int bit = stations; bit < 32; bit++) {
            if ((set >>> bit & 1) == 1) {
                return false;
            }
        }
        cut = set;
        battens.clear();
        return true;
    }

    public int drawing(int year) {
        if (stations == 0 || out(year, 0, 2100) || drawings.size() == 4) {
            return -1;
        }
        drawings.add(new HashMap<>());
        return drawings.size() - 1;
    }

    private Map<Rivet, int[]> drawn(int k) {
        return out(k, 0, drawings.size() - 1) ? null : drawings.get(k);
    }

    public boolean mark(int drawing, int station, int strake, int side, int y, int z) {
        Rivet r = find(station, strake, side);
        if (r == null || drawn(drawing) == null || out(y, -6000, 6000) || out(z, -6000, 6000)) {
            return false;
        }
        drawn(drawing).put(r, new int[] {y, z});
        return true;
    }

    public int draw(int drawing, int dy, int dz, int thousandths) {
        if (drawn(drawing) == null || out(dy, -2000, 2000) || out(dz, -2000, 2000) || out(thousandths, 0, 1000)) {
            return -1;
        }
        for (Rivet r : rivets) {
            if (seen(r)) {
                drawn(drawing).put(r, new int[] {r.y + dy + (draw() < thousandths ? 50 : 0), r.z + dz});
            }
        }
        return drawn(drawing).size();
    }

    public int marked(int drawing, int station, int strake, int side, int what) {
        Rivet r = find(station, strake, side);
        if (r == null || drawn(drawing) == null || !drawn(drawing).containsKey(r) || out(what, 0, 1)) {
            return -10000;
        }
        return drawn(drawing).get(r)[what];
    }

    private List<Integer> differences(int a, int b, int which) {
        List<Integer> found = new ArrayList<>();
        for (Rivet r : rivets) {
            if (drawn(a).containsKey(r) && drawn(b).containsKey(r)) {
                found.add(drawn(b).get(r)[which] - drawn(a).get(r)[which]);
            }
        }
        return found;
    }

    private static int left(List<Integer> differences, int shift) {
        int sum = 0;
        for (int d : differences) {
            sum += Math.abs(d - shift);
        }
        return sum;
    }

    private int shift(int a, int b, int which) {
        List<Integer> differences = differences(a, b, which);
        int best = differences.get(0);
        for (int d : differences) {
            for (int shift = d - 1; shift <= d + 1; shift++) {
                int less = left(differences, shift) - left(differences, best);
                if (less < 0 || less == 0 && shift < best) {
                    best = shift;
                }
            }
        }
        return best;
    }

    public int joined(int a, int b, int what) {
        if (drawn(a) == null || drawn(b) == null || a == b || out(what, 0, 4)) {
            return -1000000;
        }
        int n = differences(a, b, 0).size();
        if (what == 2) {
            return n;
        }
        if (n == 0) {
            return -1000000;
        }
        int which = what % 3;
        return what < 2 ? shift(a, b, what) : left(differences(a, b, which), shift(a, b, which));
    }

    public int off(int a, int b, int much) {
        if (drawn(a) == null || drawn(b) == null || a == b || out(much, 0, 12000) || joined(a, b, 2) == 0) {
            return -1;
        }
        List<Integer> ys = differences(a, b, 0);
        List<Integer> zs = differences(a, b, 1);
        int y = shift(a, b, 0);
        int z = shift(a, b, 1);
        int found = 0;
        for (int i = 0; i < ys.size(); i++) {
            found += Math.max(Math.abs(ys.get(i) - y), Math.abs(zs.get(i) - z)) > much ? 1 : 0;
        }
        return found;
    }

    public int slipped(int a, int b, int c, int station, int strake, int side) {
        Rivet r = find(station, strake, side);
        if (r == null || a == b || b == c || a == c) {
            return -1;
        }
        for (int k : new int[] {a, b, c}) {
            if (drawn(k) == null || !drawn(k).containsKey(r)) {
                return -1;
            }
        }
        int[] far = new int[2];
        for (int i = 0; i < 2; i++) {
            int k = i == 0 ? a : b;
            for (int which = 0; which < 2; which++) {
                far[i] += Math.abs(drawn(k).get(r)[which] + shift(k, c, which) - drawn(c).get(r)[which]);
            }
        }
        return far[0] == far[1] ? 2 : far[0] > far[1] ? 0 : 1;
    }

    private int[][] spans(int strake, int out) {
        if (out(strake, 0, strakes - 1) || out(out, 0, 40)) {
            return null;
        }
        int[][] seen = new int[stations][];
        for (Rivet r : rivets) {
            if (r.strake == strake && seen(r)) {
                int[] old = seen[r.station];
                seen[r.station] = old == null ? new int[] {r.y - out, r.y + out}
                        : new int[] {Math.min(old[0], r.y - out), Math.max(old[1], r.y + out)};
            }
        }
        int[][] spans = new int[stations][];
        for (int f = 0; f < stations; f++) {
            spans[f] = seen[f];
            for (int far = 1; far < stations && seen[f] == null; far++) {
                spans[f] = wider(spans[f], f - far < 0 || hidden(seen, f - far + 1, f) ? null : seen[f - far]);
                spans[f] = wider(spans[f], f + far >= stations || hidden(seen, f, f + far - 1) ? null : seen[f + far]);
            }
            if (spans[f] == null || spans[f][1] - spans[f][0] > 60) {
                return null;
            }
        }
        return spans;
    }

    private static boolean hidden(int[][] seen, int from, int to) {
        for (int f = from; f <= to; f++) {
            if (seen[f] != null) {
                return true;
            }
        }
        return false;
    }

    private static int[] wider(int[] a, int[] b) {
        if (a == null || b == null) {
            return a == null ? b : a;
        }
        return new int[] {Math.min(a[0], b[0]), Math.max(a[1], b[1])};
    }

    public int span(int strake, int station, int out, int what) {
        int[][] spans = spans(strake, out);
        return spans == null || out(station, 0, stations - 1) || out(what, 0, 1) ? -10000 : spans[station][what];
    }

    private static long bent(int[] row, int last) {
        long sum = 0;
        for (int f = 1; f < last; f++) {
            long b = row[f - 1] - 2L * row[f] + row[f + 1];
            sum += b * b;
        }
        return sum;
    }

    /** Forward, by the best row so far for every y of the last two stations. */
    private int[] row(int strake, int out) {
        List<Integer> key = List.of(strake, out);
        if (!battens.containsKey(key)) {
            int[][] spans = spans(strake, out);
            battens.put(key, spans == null ? new int[0] : row(spans));
        }
        int[] row = battens.get(key);
        return row.length == 0 ? null : row;
    }

    private static int[] row(int[][] spans) {
        int n = spans.length;
        int[][][] best = new int[61][61][];
        for (int a = spans[0][0]; a <= spans[0][1]; a++) {
            for (int b = spans[1][0]; b <= spans[1][1]; b++) {
                int[] row = new int[n];
                row[0] = a;
                row[1] = b;
                best[a - spans[0][0]][b - spans[1][0]] = row;
            }
        }
        for (int f = 2; f < n; f++) {
            best = longer(spans, best, f);
        }
        int[] found = null;
        for (int[][] some : best) {
            for (int[] row : some) {
                found = better(found, row, n - 1);
            }
        }
        return found;
    }

    private static int[][][] longer(int[][] spans, int[][][] best, int f) {
        int[][][] next = new int[61][61][];
        for (int b = 0; b <= spans[f - 1][1] - spans[f - 1][0]; b++) {
            for (int a = 0; a <= spans[f - 2][1] - spans[f - 2][0]; a++) {
                for (int c = 0; c <= spans[f][1] - spans[f][0]; c++) {
                    best[a][b][f] = spans[f][0] + c;
                    if (better(next[b][c], best[a][b], f) != next[b][c]) {
                        next[b][c] = best[a][b].clone();
                    }
                }
            }
        }
        return next;
    }

    private static int[] better(int[] a, int[] b, int last) {
        if (a == null || b == null) {
            return a == null ? b : a;
        }
        long more = bent(a, last) - bent(b, last);
        return more < 0 || more == 0 && Arrays.compare(a, 0, last + 1, b, 0, last + 1) <= 0 ? a : b;
    }

    public long batten(int strake, int out, int what) {
        int[] row = row(strake, out);
        if (row == null || out(what, -1, stations - 1)) {
            return -1000000;
        }
        return what == -1 ? bent(row, stations - 1) : row[what];
    }

    public int lost(int strake, int out, int end) {
        int[] row = row(strake, out);
        if (row == null || out(end, 0, 1)) {
            return -1;
        }
        int y = end == 0 ? row[0] : row[stations - 1];
        int step = y - (end == 0 ? row[1] : row[stations - 2]);
        if (step >= 0) {
            return -2;
        }
        int more = 0;
        for (; y > 0; y += step) {
            more++;
        }
        return more;
    }

    public boolean size(int station, int strake, int side, int n) {
        Rivet r = find(station, strake, side);
        if (r == null || out(n, 0, 99)) {
            return false;
        }
        if (rivets.stream().filter(o -> o != r && o.size > 0).count() >= 60) {
            return false;
        }
        r.size = n;
        return true;
    }

    public long repairs(int strake, int much, int what) {
        if (out(strake, 0, strakes - 1) || out(much, 0, 99) || out(what, 0, 3)) {
            return -1;
        }
        int[] having = new int[100];
        rivets.forEach(r -> having[r.size]++);
        having[0] = 0;
        int usual = 0;
        for (int i = 1; i < 100; i++) {
            usual = having[i] > having[usual] ? i : usual;
        }
        int mode = usual;
        int all = (int) rivets.stream().filter(r -> r.size > 0).count();
        int odd = (int) rivets.stream().filter(r -> r.size > 0 && Math.abs(r.size - mode) > much).count();
        int here = (int) rivets.stream().filter(r -> r.size > 0 && r.strake == strake).count();
        int both = (int) rivets.stream().filter(r -> r.size > 0 && r.strake == strake && Math.abs(r.size - mode) > much)
                .count();
        BigInteger above = BigInteger.ZERO;
        for (int i = both; i <= here; i++) {
            above = above.add(FindsTest.choices(odd, i).multiply(FindsTest.choices(all - odd, here - i)));
        }
        BigInteger below = FindsTest.choices(all, here);
        BigInteger divisor = above.gcd(below);
        return what == 0 ? both : what == 1 ? here : (what == 2 ? above : below).divide(divisor).longValueExact();
    }

    public boolean thole(int station, int side, int seen) {
        if (out(station, 0, stations - 1) || out(side, 0, 1) || out(seen, -1, 1)) {
            return false;
        }
        tholes.put(List.of(station, side), seen);
        return true;
    }

    private int at(int station, int side) {
        return (cut & 1 << station) != 0 ? -1 : tholes.getOrDefault(List.of(station, side), -1);
    }

    public int oars(int what) {
        if (stations == 0 || out(what, 0, 3)) {
            return -1;
        }
        int[] found = new int[4];
        for (int f = 0; f < stations; f++) {
            found[0] += at(f, 0) == 1 && at(f, 1) == 1 ? 1 : 0;
            found[1] += at(f, 0) != 0 && at(f, 1) != 0 ? 1 : 0;
            for (int side = 0; side < 2; side++) {
                found[2] += at(f, side) != -1 ? 1 : 0;
                found[3] += at(f, side) == 1 ? 1 : 0;
            }
        }
        return found[what];
    }

    public long pair(int station, int what) {
        if (out(station, 0, stations - 1) || out(what, 0, 1)) {
            return -1;
        }
        if (oars(2) == 0) {
            return -2;
        }
        BigInteger above = BigInteger.ONE;
        BigInteger below = BigInteger.ONE;
        for (int side = 0; side < 2; side++) {
            int seen = at(station, side);
            above = above.multiply(BigInteger.valueOf(seen == -1 ? oars(3) : seen));
            below = below.multiply(BigInteger.valueOf(seen == -1 ? oars(2) : 1));
        }
        return (what == 0 ? above : below).divide(above.gcd(below)).longValueExact();
    }

    public boolean phosphor(int column, int row, int n) {
        if (out(column, 0, 11) || out(row, 0, 5) || out(n, 0, 999)) {
            return false;
        }
        cells[row][column] = n;
        return true;
    }

    public int body(int w, int h, int what) {
        if (out(w, 1, 12) || out(h, 1, 6) || out(what, 0, 4)) {
            return -1;
        }
        List<int[]> places = new ArrayList<>();
        for (int row = 0; row <= 6 - h; row++) {
            for (int column = 0; column <= 12 - w; column++) {
                int sum = 0;
                for (int i = 0; i < w * h; i++) {
                    sum += cells[row + i / w][column + i % w];
                }
                places.add(new int[] {column, row, sum});
            }
        }
        int most = places.stream().mapToInt(p -> p[2]).max().getAsInt();
        int[] best = places.stream().filter(p -> p[2] == most).findFirst().get();
        int rank = (int) places.stream().filter(p -> p[2] >= most).count();
        return new int[] {best[0], best[1], most, rank, places.size()}[what];
    }

    public boolean story(int k, int i, int thousandths) {
        if (out(k, 0, 5) || out(i, 0, 5) || out(thousandths, 0, 1000)) {
            return false;
        }
        stories.computeIfAbsent(k, key -> new int[6])[i] = thousandths;
        return true;
    }

    public boolean sign(int i, int seen) {
        if (out(i, 0, 5) || out(seen, -1, 1)) {
            return false;
        }
        signs[i] = seen;
        return true;
    }

    public long odds(int k) {
        if (k == -1) {
            return stories.keySet().stream().mapToLong(this::odds).sum();
        }
        if (!stories.containsKey(k)) {
            return -1;
        }
        long product = 1;
        for (int i = 0; i < 6; i++) {
            int shows = stories.get(k)[i];
            product *= signs[i] == -1 ? 1 : signs[i] == 1 ? shows : 1000 - shows;
        }
        return product;
    }

    public int next(int what) {
        int best = -1;
        int most = -1;
        for (int i = 0; i < 6; i++) {
            int sum = 0;
            for (int a : stories.keySet()) {
                for (int b : stories.keySet()) {
                    boolean counts = a < b && odds(a) != 0 && odds(b) != 0;
                    sum += counts ? Math.abs(stories.get(a)[i] - stories.get(b)[i]) : 0;
                }
            }
            if (signs[i] == -1 && sum > most) {
                best = i;
                most = sum;
            }
        }
        return stories.isEmpty() || best < 0 || out(what, 0, 1) ? -1 : what == 0 ? best : most;
    }

    public long area(int station, int height, int out, int w) {
        if (out(station, 0, stations - 1) || out(height, 1, 200) || out(w, 0, strakes - 1)) {
            return -1;
        }
        long sum = 0;
        for (int s = 0; s < strakes; s++) {
            int[] row = row(s, out);
            if (row == null) {
                return -1;
            }
            int times = (s < w ? 1 : 0) + (s > 0 && s <= w ? 1 : 0);
            sum += (long) Math.max(0, row[station]) * height * times;
        }
        return sum;
    }

    public long volume(int height, int out, int w) {
        long sum = 0;
        for (int f = 0; f < Math.max(1, stations); f++) {
            long area = area(f, height, out, w);
            if (area < 0) {
                return -1;
            }
            sum += area * (f == 0 || f == stations - 1 ? 1 : 2);
        }
        return sum * pitch / 2;
    }

    public int depth(int height, int out, int weight) {
        if (out(weight, 0, 2000000000) || volume(height, out, 0) < 0) {
            return -1;
        }
        for (int w = 0; w < strakes; w++) {
            if (volume(height, out, w) >= weight) {
                return w;
            }
        }
        return -2;
    }

    public int pace(int k) {
        if (out(k, 1, 1000) || stations == 0) {
            return -1;
        }
        return BigInteger.valueOf((long) k * (stations - 1) * pitch).sqrt().intValueExact();
    }

    private int between(int[] row, int from, int to) {
        int sum = 0;
        for (int f = from; f < to; f++) {
            long aside = row[f + 1] - row[f];
            sum += BigInteger.valueOf((long) pitch * pitch + aside * aside).sqrt().intValueExact();
        }
        return sum;
    }

    public int length(int strake, int out) {
        int[] row = row(strake, out);
        return row == null ? -1 : between(row, 0, stations - 1);
    }

    public int joints(int strake, int out, int most, int what) {
        if (out(strake, 0, strakes - 1) || out(most, 1, 100000) || what < -1) {
            return -3;
        }
        List<int[]> rows = new ArrayList<>();
        for (int s = 0; s <= strake; s++) {
            if (row(s, out) == null) {
                return -3;
            }
            rows.add(row(s, out));
        }
        List<Integer> below = List.of();
        for (int[] row : rows) {
            List<Integer> found = null;
            for (int many = 0; many < stations && found == null; many++) {
                found = lay(row, 0, many, most, below, new HashMap<>());
            }
            if (found == null) {
                return -2;
            }
            below = found;
        }
        return what == -1 ? below.size() : what < below.size() ? below.get(what) : -3;
    }

    private List<Integer> lay(int[] row, int from, int many, int most, List<Integer> below,
            Map<List<Integer>, List<Integer>> known) {
        List<Integer> key = List.of(from, many);
        if (!known.containsKey(key)) {
            List<Integer> found = many == 0 && between(row, from, stations - 1) <= most ? List.of() : null;
            for (int f = from + 1; f < stations - 1 && many > 0 && found == null; f++) {
                int joint = f;
                boolean barred = below.stream().anyMatch(j -> j - joint > -2 && j - joint < 2);
                List<Integer> rest = barred || between(row, from, f) > most ? null
                        : lay(row, f, many - 1, most, below, known);
                if (rest != null) {
                    found = new ArrayList<>(List.of(f));
                    found.addAll(rest);
                }
            }
            known.put(key, found);
        }
        return known.get(key);
    }

    public int lasts(int v, int wet) {
        if (out(v, 1, 10000) || out(wet, 0, 100)) {
            return -1;
        }
        Map<Character, Integer> letters = new HashMap<>(Map.of('n', stations, 'k', strakes, 'w', wet, 'v', v));
        for (int t = 0; t < 2000; t++) {
            letters.put('t', t);
            letters.put('v', letters.get('v') - SlowText.value(texts[2], 'e', letters, 0, 1000));
            if (letters.get('v') <= 0) {
                return t + 1;
            }
        }
        return -2;
    }

    public int check(int strake, int out, int n) {
        int[] row = row(strake, out);
        if (row == null || n < 0 || n * 4L > tape.size()) {
            return -2;
        }
        int[] told = new int[n];
        for (int i = 0; i < 4 * n; i++) {
            told[i / 4] = told[i / 4] * 256 + (tape.get(i) & 255);
        }
        tape.clear();
        return Arrays.mismatch(told, row);
    }

    public int count(int what) {
        if (out(what, 0, 9 + drawings.size())) {
            return -1;
        }
        if (what > 9) {
            return drawn(what - 10).size();
        }
        int left = (int) rivets.stream().filter(r -> !r.gone).count();
        int[] clauses = new int[3];
        for (int i = 0; i < 3; i++) {
            clauses[i] = texts[i].isEmpty() ? 0 : texts[i].split(";").length;
        }
        return new int[] {stations, strakes, left, (int) luck, tape.size(), clauses[0], clauses[1], clauses[2],
            drawings.size(), stories.size()}[what];
    }
}
