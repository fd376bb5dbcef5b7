import java.util.ArrayList;
import java.util.Arrays;
import java.util.List;
import java.util.TreeSet;

/**
 * The document once more, in another way than the program's: texts are read anew for each hour,
 * every place is an object of a real class, ways are walked one by one, each cell is swept and each
 * lamp hung on its own. Slow, and kept so: where both agree, a slip in either is unlikely.
 */
final class Model {
    /** The kinds as classes of Java, so that super and overriding are Java's own. */
    static class Place {
        final int cell, v;
        final List<Integer> trace;
        Place(int cell, int v, List<Integer> trace) { this.cell = cell; this.v = v; this.trace = trace; }
        int kind() { return 0; }
        int freezes(int x) { trace.add(10); return x + cell; }
        int goes(int x) { trace.add(11); return freezes(x) - v; }
        int tells(int x) { trace.add(12); return goes(x) * 2; }
    }
    static class Clean extends Place {
        Clean(int cell, int v, List<Integer> trace) { super(cell, v, trace); }
        @Override int kind() { return 1; }
        @Override int goes(int x) { trace.add(20); return super.goes(x) ^ 6; }
    }
    static class Whitening extends Place {
        Whitening(int cell, int v, List<Integer> trace) { super(cell, v, trace); }
        @Override int kind() { return 2; }
        @Override int freezes(int x) { trace.add(30); return super.freezes(x * 3); }
    }
    static class Sprung extends Place {
        Sprung(int cell, int v, List<Integer> trace) { super(cell, v, trace); }
        @Override int kind() { return 3; }
        @Override int freezes(int x) { trace.add(50); return -super.freezes(x); }
        @Override int goes(int x) { trace.add(51); return super.goes(x + 1); }
    }
    static class Sunned extends Place {
        Sunned(int cell, int v, List<Integer> trace) { super(cell, v, trace); }
        @Override int kind() { return 4; }
        @Override int tells(int x) { trace.add(40); return super.tells(x) + goes(1); }
    }
    static class Shaded extends Whitening {
        Shaded(int cell, int v, List<Integer> trace) { super(cell, v, trace); }
        @Override int kind() { return 5; }
        @Override int tells(int x) { trace.add(60); return super.tells(x - cell); }
    }
    static class Kept extends Sprung {
        Kept(int cell, int v, List<Integer> trace) { super(cell, v, trace); }
        @Override int kind() { return 6; }
        @Override int goes(int x) { trace.add(70); return super.goes(x) + super.freezes(2); }
        @Override int freezes(int x) { trace.add(71); return super.freezes(x) ^ v; }
    }

    /** A grammar's every reading at once: where each part can end, and how far any reading came. */
    static final class Grammar {
        final String text;
        int far = 0;
        Grammar(String text) { this.text = text; }

        TreeSet<Integer> sign(TreeSet<Integer> from, String signs) {
            TreeSet<Integer> ends = new TreeSet<>();
            for (int at : from) {
                if (at < text.length() && signs.indexOf(text.charAt(at)) >= 0) ends.add(at + 1);
                far = Math.max(far, at);
            }
            return ends;
        }
        TreeSet<Integer> word(TreeSet<Integer> from, String word) {
            TreeSet<Integer> ends = from;
            for (char sign : word.toCharArray()) ends = sign(ends, String.valueOf(sign));
            return ends;
        }
        TreeSet<Integer> number(TreeSet<Integer> from) {
            TreeSet<Integer> ends = sign(from, "0123456789");
            ends.addAll(sign(ends, "0123456789"));
            return ends;
        }
        TreeSet<Integer> chain(TreeSet<Integer> from, String joint, int within) {
            TreeSet<Integer> ends = new TreeSet<>();
            TreeSet<Integer> next = from;
            while (!next.isEmpty()) {
                TreeSet<Integer> parts = joint.equals("|") ? chain(next, "&", within) : fact(next, within);
                ends.addAll(parts);
                next = sign(parts, joint);
            }
            return ends;
        }
        TreeSet<Integer> fact(TreeSet<Integer> from, int within) {
            if (from.isEmpty()) return from;
            TreeSet<Integer> ends = number(sign(sign(from, "hdw"), "<=>"));
            if (within < 4) {
                ends.addAll(fact(sign(from, "!"), within + 1));
                ends.addAll(sign(chain(sign(from, "("), "|", within + 1), ")"));
            }
            return ends;
        }
        TreeSet<Integer> clause(TreeSet<Integer> from) {
            TreeSet<Integer> ends = number(word(from, "bears "));
            for (String word : new String[] {"frost ", "thaw ", "snow "}) {
                ends.addAll(chain(word(number(word(from, word)), " "), "|", 0));
            }
            return ends;
        }
        /** -1 if the text is a winter, else its fault. */
        int fault() {
            TreeSet<Integer> next = new TreeSet<>(List.of(0));
            for (int c = 0; c < 10 && !next.isEmpty(); c++) {
                TreeSet<Integer> ends = clause(next);
                if (ends.contains(text.length())) return -1;
                for (int end : ends) far = Math.max(far, end);
                next = c < 9 ? sign(ends, ";") : new TreeSet<>();
            }
            return far;
        }
    }

    /** What of a sort a winter gives in an hour, from its text. */
    static int given(String winter, String sort, int hour, boolean warm) {
        int sum = 0;
        for (String clause : winter.isEmpty() ? new String[0] : winter.split(";")) {
            String[] parts = clause.split(" ");
            if (parts[0].equals(sort) && isSo(parts[2], hour, warm)) sum += Integer.parseInt(parts[1]);
        }
        return sum;
    }
    /** Splits at the outermost | , then & , then looks at ! and ( and the test. */
    static boolean isSo(String e, int hour, boolean warm) {
        for (char joint : new char[] {'|', '&'}) {
            int open = 0;
            for (int i = 0; i < e.length(); i++) {
                char sign = e.charAt(i);
                if (sign == '(') open++;
                if (sign == ')') open--;
                if (open == 0 && sign == joint) {
                    boolean left = isSo(e.substring(0, i), hour, warm);
                    boolean right = isSo(e.substring(i + 1), hour, warm);
                    return joint == '|' ? left || right : left && right;
                }
            }
        }
        if (e.charAt(0) == '!') return !isSo(e.substring(1), hour, warm);
        if (e.charAt(0) == '(') return isSo(e.substring(1, e.length() - 1), hour, warm);
        int value = e.charAt(0) == 'h' ? hour % 24 : e.charAt(0) == 'd' ? hour / 24 % 100 : warm ? 1 : 0;
        int number = Integer.parseInt(e.substring(2));
        return e.charAt(1) == '<' ? value < number : e.charAt(1) == '=' ? value == number : value > number;
    }
    static int bearing(String winter) {
        int bears = 10;
        for (String clause : winter.split(";")) {
            if (clause.startsWith("bears ")) bears = Integer.parseInt(clause.substring(6));
        }
        return bears == 0 ? 1 : bears;
    }

    int[] clear = new int[16], white = new int[16], snow = new int[16], children = new int[16];
    int[] kinds = new int[16], values = new int[16];
    boolean[] warmDays = new boolean[10];
    int[] odds = new int[4];
    List<int[]> holes = new ArrayList<>();
    int hour = 0;
    int holds = -1;
    Model kept = null;

    StringBuilder text = new StringBuilder();
    List<String> winters = new ArrayList<>();
    List<Integer> trace = new ArrayList<>();
    int[] sorts = {-1, -1, -1, -1, -1, -1};
    long[][] tapes = new long[6][];

    private Model copy() {
        Model other = new Model();
        other.takeFrom(this);
        other.winters = winters;
        return other;
    }
    private void takeFrom(Model other) {
        clear = other.clear.clone();
        white = other.white.clone();
        snow = other.snow.clone();
        children = other.children.clone();
        kinds = other.kinds.clone();
        values = other.values.clone();
        warmDays = other.warmDays.clone();
        odds = other.odds.clone();
        holes = new ArrayList<>(other.holes);
        hour = other.hour;
        holds = other.holds;
    }
    private String holding() { return holds < 0 ? "" : winters.get(holds); }
    private boolean isWarm(int hour) {
        int day = hour / 24 % 100;
        return day < 10 && warmDays[day];
    }
    private int thickAt(int cell) { return clear[cell] + white[cell] / 2; }
    private static boolean areNear(int a, int b) {
        return Math.abs(a / 4 - b / 4) + Math.abs(a % 4 - b % 4) == 1;
    }
    private int loadAt(int cell) {
        int load = 2 * children[cell];
        for (int other = 0; other < 16; other++) if (areNear(cell, other)) load += children[other];
        return load;
    }
    private boolean bearsAt(int cell) {
        int thick = thickAt(cell);
        return loadAt(cell) == 0 || thick > 0 && thick * thick / bearing(holding()) >= loadAt(cell);
    }
    private boolean allBear() {
        for (int cell = 0; cell < 16; cell++) if (!bearsAt(cell)) return false;
        return true;
    }
    private int coldAt(int cell, int frost) {
        boolean noon = hour % 24 >= 10 && hour % 24 < 16;
        int v = values[cell];
        if (kinds[cell] == 3 || kinds[cell] == 6) return frost - v;
        if (kinds[cell] == 4 && noon) return frost - v;
        if (kinds[cell] == 5 && noon) return frost + v;
        return frost;
    }
    private int frostOf(String winter, boolean warm) {
        return given(winter, "frost", hour, warm) - given(winter, "thaw", hour, warm);
    }
    private void pass(String winter, boolean warm, int lamp) {
        int frost = frostOf(winter, warm);
        int falls = given(winter, "snow", hour, warm);
        for (int c = 0; c < 16; c++) {
            int cold = coldAt(c, frost) - (lamp >= 0 && (lamp == c || areNear(lamp, c)) ? 3 : 0);
            if (clear[c] + white[c] > 0) snow[c] = Math.min(99, snow[c] + falls);
            if (cold > 0) {
                if ((kinds[c] == 2 || kinds[c] == 5) && snow[c] > 0) {
                    snow[c] -= 1;
                    white[c] = Math.min(999, white[c] + 1);
                }
                clear[c] = Math.min(999, clear[c] + 20 * cold / (20 + clear[c] + white[c] + 5 * snow[c]));
            }
            for (int left = -cold; left > 0; left--) {
                if (snow[c] > 0) snow[c]--;
                else if (white[c] > 0) white[c]--;
                else if (clear[c] > 0) clear[c]--;
            }
            if (kinds[c] == 1) snow[c] = 0;
            if (kinds[c] == 6 && cold < 2 * values[c]) clear[c] = white[c] = snow[c] = 0;
        }
        hour++;
    }
    private Model behind(int n) {
        Model later = copy();
        for (int i = 0; i < n; i++) later.pass(holding(), later.isWarm(later.hour), -1);
        return later;
    }

    int lay(int cell, int c, int w, int s) {
        if (cell < 0 || cell > 15) return -1;
        if (c < 0 || c > 999 || w < 0 || w > 999 || s < 0 || s > 99) return -2;
        int was = thickAt(cell);
        clear[cell] = c;
        white[cell] = w;
        snow[cell] = s;
        return was;
    }
    int of(int cell, int what) {
        if (cell < 0 || cell > 15 || what < 0 || what > 6) return -1;
        int[] all = {clear[cell], white[cell], snow[cell], thickAt(cell), loadAt(cell), bearsAt(cell) ? 1 : 0, children[cell]};
        return all[what];
    }
    int children(int cell, int n) {
        if (cell < 0 || cell > 15) return -1;
        if (n < 0 || n > 9) return -2;
        int was = children[cell];
        children[cell] = n;
        return was;
    }
    int fall() {
        int bits = 0;
        for (int c = 0; c < 16; c++) if (children[c] > 0 && !bearsAt(c)) bits += 1 << c;
        return bits;
    }
    int feed(int bytes, int n) {
        if (n < 0 || n > 4) return -2;
        if (text.length() + n > 100) return -4;
        for (int i = 0; i < n; i++) text.append((char) (bytes >> 8 * (n - 1 - i) & 255));
        return text.length();
    }
    int winter() {
        if (winters.size() == 5) return -4;
        String read = text.toString();
        text.setLength(0);
        int fault = new Grammar(read).fault();
        if (fault >= 0) return -10 - fault;
        winters.add(read);
        holds = winters.size() - 1;
        return holds;
    }
    int told(int at, int what) {
        if (what < 0 || what > 2) return -1001;
        if (at < 0 || at > 999) return -1002;
        Model then = copy();
        then.hour = at;
        if (what == 0) return then.frostOf(holding(), isWarm(at));
        return what == 1 ? given(holding(), "snow", at, isWarm(at)) : bearing(holding());
    }
    int warm(int day, boolean is) {
        if (day < 0 || day > 9) return -1;
        int was = warmDays[day] ? 1 : 0;
        warmDays[day] = is;
        return was;
    }
    int place(int cell, int kind, int v) {
        if (cell < 0 || cell > 15 || kind < 0 || kind > 6) return -1;
        if (v < 0 || v > 9) return -2;
        int was = kinds[cell];
        kinds[cell] = kind;
        values[cell] = v;
        return was;
    }
    int cold(int cell) {
        if (cell < 0 || cell > 15) return -1001;
        return coldAt(cell, frostOf(holding(), isWarm(hour)));
    }
    int go(int n) {
        if (n < 1 || n > 240) return -2;
        if (hour + n > 9999) return -3;
        takeFrom(behind(n));
        return hour;
    }
    int when(int k) {
        if (k < 1 || k > 9) return -2;
        Model later = copy();
        Arrays.fill(later.children, k);
        for (int n = 0; n <= 240; n++) {
            if (later.allBear()) return n;
            later.pass(holding(), later.isWarm(later.hour), -1);
        }
        return -5;
    }
    int thin(int n, int what) {
        if (what < 0 || what > 2) return -1;
        if (n < 0 || n > 99) return -2;
        Model later = behind(n);
        int least = Integer.MAX_VALUE, most = 0, cell = -1, half = 0;
        for (int c = 15; c >= 0; c--) {
            if (later.thickAt(c) <= least) { least = later.thickAt(c); cell = c; }
            most = Math.max(most, later.thickAt(c));
        }
        for (int c = 0; c < 16; c++) if (later.thickAt(c) <= most - later.thickAt(c)) half++;
        return what == 0 ? cell : what == 1 ? least : half;
    }
    int reach(int cell) {
        if (cell < 0 || cell > 15) return -1;
        if (cell < 4) return 0;
        int[] cells = new int[16];
        Arrays.fill(cells, 99);
        for (int c = 0; c < 4; c++) walk(c, cell, 1, cells);
        int best = 99;
        for (int c = 0; c < 16; c++) if (areNear(c, cell)) best = Math.min(best, cells[c]);
        return best == 99 ? -5 : best;
    }
    private void walk(int at, int goal, int length, int[] cells) {
        if (at == goal || length >= cells[at]) return;
        children[at]++;
        boolean bears = bearsAt(at);
        children[at]--;
        if (!bears) return;
        cells[at] = length;
        for (int c = 0; c < 16; c++) if (areNear(at, c)) walk(c, goal, length + 1, cells);
    }
    int sweep(int n, int what) {
        if (what < 0 || what > 1) return -1;
        if (n < 1 || n > 99) return -2;
        int best = -1, most = Integer.MIN_VALUE;
        Model plain = behind(n);
        for (int c = 0; c < 16; c++) {
            Model swept = copy();
            swept.snow[c] = 0;
            int more = swept.behind(n).thickAt(c) - plain.thickAt(c);
            if (more > most) { most = more; best = c; }
        }
        return what == 0 ? best : most;
    }
    int lamp(int n) {
        if (n < 1 || n > 99) return -2;
        int best = -1, least = Integer.MAX_VALUE;
        for (int lamp = 0; lamp < 16; lamp++) {
            Model lit = copy();
            for (int i = 0; i < n; i++) lit.pass(holding(), lit.isWarm(lit.hour), lamp);
            int sum = 0;
            for (int c = 0; c < 16; c++) sum += lit.thickAt(c);
            if (sum < least) { least = sum; best = lamp; }
        }
        return best;
    }
    int board(int n, int s, int what) {
        if (what < 0 || what > 2) return -1;
        if (n < 1 || n > 240 || s < 0 || s > 999) return -2;
        int[] sums = new int[n];
        boolean[] safe = new boolean[n];
        Model later = copy();
        int sum = 0;
        for (int i = 0; i < n; i++) {
            sum += later.frostOf(holding(), later.isWarm(later.hour));
            later.pass(holding(), later.isWarm(later.hour), -1);
            sums[i] = sum;
            safe[i] = later.allBear();
        }
        if (what == 0) return greens(sums, safe, s, false);
        if (what == 1) return greens(sums, safe, s, true);
        for (int least = 0; least <= 999; least++) if (greens(sums, safe, least, true) == 0) return least;
        return -5;
    }
    private static int greens(int[] sums, boolean[] safe, int s, boolean wrongAlone) {
        int many = 0;
        for (int i = 0; i < sums.length; i++) if (sums[i] >= s && !(wrongAlone && safe[i])) many++;
        return many;
    }
    int rope() {
        int best = 0;
        for (int k = 0; k <= 4; k++) {
            Model fewer = copy();
            for (int c = 0; c < 16; c++) if (c % 4 >= k) fewer.children[c] = 0;
            if (fewer.fall() == 0) best = k;
        }
        return best;
    }
    int hole(int cell, int at, int thick) {
        if (cell < 0 || cell > 15) return -1;
        if (at < 0 || at > 239 || thick < 0 || thick > 1499) return -2;
        if (holes.size() == 10) return -4;
        holes.add(new int[] {cell, at, thick});
        return holes.size();
    }
    int off(int winter) {
        if (winter < 0 || winter >= winters.size()) return -1;
        int sum = 0;
        for (int[] hole : holes) {
            Model other = new Model();
            other.kinds = kinds;
            other.values = values;
            other.warmDays = warmDays;
            for (int i = 0; i < hole[1]; i++) other.pass(winters.get(winter), other.isWarm(other.hour), -1);
            sum += Math.abs(other.thickAt(hole[0]) - hole[2]);
        }
        return sum;
    }
    int likely() {
        int best = -5;
        for (int w = winters.size() - 1; w >= 0; w--) if (best < 0 || off(w) <= off(best)) best = w;
        return best;
    }
    int blows(int n) {
        if (n < 0 || n > 99) return -2;
        int bits = 0;
        for (int c = 0; c < 16; c++) {
            int blows = 0;
            while (15 * blows < thickAt(c)) blows++;
            if (blows == n) bits |= 1 << c;
        }
        return bits;
    }
    int odds(int k, int n) {
        if (k < 0 || k > 3) return -1;
        if (n < 0 || n > 10) return -2;
        int was = odds[k];
        odds[k] = n;
        return was;
    }
    long sure(int n, int part) {
        if (n < 1 || n > 96 || part < 0 || part > 1) return Long.MIN_VALUE;
        long above = sureFrom(copy(), n, hour / 24, -1, false);
        long below = 10000;
        for (int by = 2; by <= 5; by++) {
            while (above % by == 0 && below % by == 0) { above /= by; below /= by; }
        }
        return part == 0 ? above : below;
    }
    /** Of ten thousand cases those in which all bear: it parts in two as a day of the four begins. */
    private long sureFrom(Model at, int left, int firstDay, int day, boolean warm) {
        int k = at.hour / 24 - firstDay;
        if (k != day && k < 4) {
            return odds[k] * sureFrom(at.copy(), left, firstDay, k, true)
                + (10 - odds[k]) * sureFrom(at.copy(), left, firstDay, k, false);
        }
        if (left == 0) {
            long rest = 1;
            for (int i = Math.min(k, 3) + 1; i < 4; i++) rest *= 10;
            return at.allBear() ? rest : 0;
        }
        at.pass(holding(), k < 4 ? warm : at.isWarm(at.hour), -1);
        return sureFrom(at, left - 1, firstDay, day, warm);
    }
    int judge(int tape, int i) {
        if (tape < 0 || tape > 5) return -1;
        if (sorts[tape] >= 0 && sorts[tape] != 3) return -12;
        for (int c = 0; c < 16; c++) {
            long at = (long) i + c;
            if (tapes[tape] == null || i < 0 || at >= tapes[tape].length) return 100 + c;
            if (tapes[tape][(int) at] != thickAt(c)) return c;
        }
        return -5;
    }
    int image() {
        kept = copy();
        return hour;
    }
    int undo() {
        if (kept == null) return -3;
        takeFrom(kept);
        return hour;
    }
    private Place placeAt(int cell) {
        int v = values[cell];
        switch (kinds[cell]) {
            case 1: return new Clean(cell, v, trace);
            case 2: return new Whitening(cell, v, trace);
            case 3: return new Sprung(cell, v, trace);
            case 4: return new Sunned(cell, v, trace);
            case 5: return new Shaded(cell, v, trace);
            case 6: return new Kept(cell, v, trace);
            default: return new Place(cell, v, trace);
        }
    }
    int act(int cell, int act, int x) {
        trace.clear();
        if (cell < 0 || cell > 15 || act < 0 || act > 2) return 0;
        Place place = placeAt(cell);
        return act == 0 ? place.freezes(x) : act == 1 ? place.goes(x) : place.tells(x);
    }
    int trace(int i) {
        return i < 0 || i >= 20 || i >= trace.size() ? -1 : trace.get(i);
    }
    int taken(int cell, int k) {
        if (k < 0 || k > 6) return -2;
        if (cell < 0 || cell > 15) return -11;
        Class<?>[] classes = {Place.class, Clean.class, Whitening.class, Sprung.class, Sunned.class, Shaded.class, Kept.class};
        Place place = placeAt(cell);
        return classes[k].isInstance(place) ? place.kind() : -12;
    }
    int count(int what) {
        int sum = 0;
        for (int n : children) sum += n;
        int[] all = {winters.size(), holes.size(), text.length(), hour, trace.size(), sum};
        return what < 0 || what > 5 ? -2 : all[what];
    }
    int tape(int tape, int sort, int n) {
        if (tape < 0 || tape > 5) return -1;
        if (sort < -1 || sort > 4 || sort >= 0 && n > 60) return -2;
        if (sort >= 0 && n < 0) return -14;
        sorts[tape] = sort;
        tapes[tape] = sort < 0 ? null : new long[n];
        return 1;
    }
    int item(int tape, int i, long v) {
        if (tape < 0 || tape > 5) return -1;
        if (tapes[tape] == null) return -11;
        if (i < 0 || i >= tapes[tape].length) return -13;
        long[] kinds = {v << 56 >> 56, v << 48 >> 48, v << 32 >> 32, v, v == 0 ? 0 : 1};
        tapes[tape][i] = kinds[sorts[tape]];
        return 1;
    }
    long read(int tape, int i) {
        if (tape < 0 || tape > 5 || tapes[tape] == null || i < 0 || i >= tapes[tape].length) return Long.MIN_VALUE;
        return tapes[tape][i];
    }
    int shift(int tape, int i, int other, int j, int n) {
        if (tape < 0 || tape > 5 || other < 0 || other > 5) return -1;
        if (tapes[tape] == null || tapes[other] == null) return -11;
        if (sorts[tape] != sorts[other]) return -12;
        if (n < 0 || i < 0 || j < 0) return -13;
        if ((long) i + n > tapes[tape].length || (long) j + n > tapes[other].length) return -13;
        long[] before = tapes[tape].clone();
        for (int k = 0; k < n; k++) tapes[other][j + k] = before[i + k];
        return n;
    }
}
