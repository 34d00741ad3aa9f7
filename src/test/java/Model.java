import java.math.BigInteger;
import java.util.ArrayList;
import java.util.Arrays;
import java.util.List;

/**
 * The document's words once more, as plainly as they can be written: no masks, no short cuts, every
 * set, order, sample and wet summer gone through. The class is compared with it.
 */
final class Model {
    static final class Fault extends RuntimeException {
        private static final long serialVersionUID = 1L;
        final int code;
        final int place;

        Fault(int code, int place) {
            this.code = code;
            this.place = place;
        }
    }

    record Token(String text, int place) { }

    record Event(int view, int head, int hour) { }

    record Told(int view, int head) { }

    // ---- state

    byte[] tape = new byte[0];
    int fault = 0;
    int place = -1;
    boolean exists = false;
    int lines;
    int hours;
    int law;
    int odds;
    List<List<Integer>> rows = new ArrayList<>();
    List<Integer> hard = new ArrayList<>();
    List<Integer> holds = new ArrayList<>();
    List<Event> told = new ArrayList<>();
    List<Event> acts = new ArrayList<>();
    Model[] images = new Model[3];
    long[][] slots = new long[4][];
    int[] widths = new int[4];

    // ---- reading

    int garden() {
        Model read = new Model();
        try {
            read.read(tape);
        } catch (Fault f) {
            fault = f.code;
            place = f.place;
            return -4;
        }
        fault = 0;
        place = -1;
        tape = new byte[0];
        take(read);
        return lines;
    }

    void take(Model other) {
        exists = other.exists;
        lines = other.lines;
        hours = other.hours;
        law = other.law;
        odds = other.odds;
        rows = new ArrayList<>(other.rows);
        hard = new ArrayList<>(other.hard);
        holds = new ArrayList<>(other.holds);
        told = new ArrayList<>(other.told);
        acts = new ArrayList<>(other.acts);
        findNeighbours();
    }

    private List<Token> tokens;
    private int at;

    private static String kind(byte b) {
        char c = (char) (b & 255);
        if (c == ' ' || c == '\n') return "blank";
        if (c >= 'a' && c <= 'z') return "word";
        if (c >= '0' && c <= '9') return "number";
        return "other";
    }

    void read(byte[] text) {
        tokens = new ArrayList<>();
        int i = 0;
        while (i < text.length) {
            String kind = kind(text[i]);
            int j = i + 1;
            if (kind.equals("word") || kind.equals("number")) {
                while (j < text.length && kind(text[j]).equals(kind)) j++;
            }
            StringBuilder b = new StringBuilder();
            for (int k = i; k < j; k++) b.append((char) (text[k] & 255));
            if (!kind.equals("blank")) tokens.add(new Token(b.toString(), i));
            i = j;
        }
        tokens.add(new Token("", text.length));
        at = 0;
        while (!peek().isEmpty()) {
            if (lines == 0) {
                word("garden");
                word("hours");
                hours = number(1, 16);
                word("law");
                law = number(0, 3);
                word("odds");
                odds = number(0, 10);
            } else if (peek().equals("row")) {
                if (!told.isEmpty()) bad(1);
                if (rows.size() == 4) bad(3);
                word("row");
                List<Integer> row = new ArrayList<>();
                rows.add(row);
                do {
                    if (peek().equals("hard") && (row.size() == 8 || hard.size() == 12)) bad(3);
                    word("hard");
                    row.add(hard.size());
                    hard.add(number(1, 4));
                    holds.add(0);
                    if (peek().equals("holds")) {
                        word("holds");
                        holds.set(holds.size() - 1, number(1, 16));
                    }
                } while (peek().equals("hard"));
            } else if (peek().equals("say")) {
                if (told.stream().filter(e -> e.view != 0).count() == 8) bad(3);
                word("say");
                int v = number(1, 2);
                word("to");
                int h = number(0, hard.size() - 1);
                word("at");
                told.add(new Event(v, h, number(0, 15)));
            } else if (peek().equals("slug")) {
                if (told.stream().filter(e -> e.view == 0).count() == 4) bad(3);
                word("slug");
                word("to");
                int h = number(0, hard.size() - 1);
                word("at");
                told.add(new Event(0, h, number(0, 15)));
            } else {
                bad(1);
            }
            word(";");
            lines++;
        }
        exists = lines > 0;
    }

    private String peek() {
        return tokens.get(at).text;
    }

    private void bad(int code) {
        throw new Fault(code, tokens.get(at).place);
    }

    private void word(String w) {
        if (!peek().equals(w)) bad(1);
        at++;
    }

    private int number(int low, int high) {
        if (!peek().matches("[0-9]+")) bad(1);
        BigInteger n = new BigInteger(peek());
        if (n.compareTo(BigInteger.valueOf(low)) < 0 || n.compareTo(BigInteger.valueOf(high)) > 0) bad(2);
        at++;
        return n.intValue();
    }

    // ---- the garden

    int heads() {
        return hard.size();
    }

    int rowOf(int head) {
        for (int r = 0; r < rows.size(); r++) {
            if (rows.get(r).contains(head)) return r;
        }
        throw new IllegalStateException();
    }

    int placeOf(int head) {
        return rows.get(rowOf(head)).indexOf(head);
    }

    private List<List<Integer>> neighboursOf = new ArrayList<>();
    private int[] rowsOf;

    private void findNeighbours() {
        neighboursOf = new ArrayList<>();
        rowsOf = new int[heads()];
        for (int h = 0; h < heads(); h++) {
            neighboursOf.add(findNeighbours(h));
            rowsOf[h] = rowOf(h);
        }
    }

    List<Integer> neighbours(int head) {
        return neighboursOf.get(head);
    }

    private List<Integer> findNeighbours(int head) {
        List<Integer> found = new ArrayList<>();
        int r = rowOf(head);
        int p = placeOf(head);
        if (p > 0) found.add(rows.get(r).get(p - 1));
        if (p + 1 < rows.get(r).size()) found.add(rows.get(r).get(p + 1));
        if (r > 0 && p < rows.get(r - 1).size()) found.add(rows.get(r - 1).get(p));
        if (r + 1 < rows.size() && p < rows.get(r + 1).size()) found.add(rows.get(r + 1).get(p));
        return found;
    }

    static int bits(List<Integer> set) {
        int b = 0;
        for (int i : set) b |= 1 << i;
        return b;
    }

    /** A run of the hours: views[hour][head], eaten[hour][head]. */
    static final class Run {
        int[][] views;
        boolean[][] eaten;
    }

    int pull(int[] views, int head, int byLaw) {
        int pull = 0;
        for (int n : neighbours(head)) {
            int weight = byLaw == 1 && rowsOf[n] == rowsOf[head] ? 2 : 1;
            if (views[n] == 1) pull += weight;
            if (views[n] == 2) pull -= weight;
        }
        if (byLaw == 3 && views[head] == 1) pull++;
        if (byLaw == 3 && views[head] == 2) pull--;
        return pull;
    }

    int taken(int[] views, int head, int byLaw, int hardness) {
        if (byLaw == 2 && views[head] != 0) return views[head];
        int pull = pull(views, head, byLaw);
        if (pull >= hardness) return 1;
        if (-pull >= hardness) return 2;
        return views[head];
    }

    Run run(int byLaw, int[] harder, List<Told> besides, boolean[] wet) {
        Run run = new Run();
        run.views = new int[hours + 1][heads()];
        run.eaten = new boolean[hours + 1][heads()];
        List<Event> all = new ArrayList<>(told);
        all.addAll(acts);
        for (int t = 0; t <= hours; t++) {
            if (t > 0) {
                for (int h = 0; h < heads(); h++) {
                    run.eaten[t][h] = run.eaten[t - 1][h];
                    run.views[t][h] = run.views[t - 1][h];
                    if (!run.eaten[t][h] && t - 1 >= holds.get(h) && !wet[t - 1]) {
                        run.views[t][h] = taken(run.views[t - 1], h, byLaw, hard.get(h) + harder[h]);
                    }
                }
            }
            for (Event e : all) {
                if (e.view != 0 && e.hour == t && !run.eaten[t][e.head]) run.views[t][e.head] = e.view;
            }
            if (t == 0) {
                for (Told b : besides) run.views[t][b.head] = b.view;
            }
            for (Event e : all) {
                if (e.view == 0 && e.hour == t) {
                    run.eaten[t][e.head] = true;
                    run.views[t][e.head] = 0;
                }
            }
        }
        return run;
    }

    private Run plainRun;
    private List<Object> ranOf;

    /** Run again only where something was told, done or rated since. */
    Run plain() {
        List<Object> now = List.of(List.copyOf(told), List.copyOf(acts), List.copyOf(hard), holds, rows, law, hours);
        if (!now.equals(ranOf)) {
            plainRun = run(law, new int[heads()], List.of(), new boolean[16]);
            ranOf = now;
        }
        return plainRun;
    }

    Run told(int view, int set) {
        List<Told> besides = new ArrayList<>();
        for (int h = 0; h < heads(); h++) {
            if ((set >> h & 1) != 0) besides.add(new Told(view, h));
        }
        return run(law, new int[heads()], besides, new boolean[16]);
    }

    Run wet(boolean[] wet) {
        return run(law, new int[heads()], List.of(), wet);
    }

    static int holders(int[] views, int view) {
        int b = 0;
        for (int h = 0; h < views.length; h++) {
            if (views[h] == view) b |= 1 << h;
        }
        return b;
    }

    static int number(int[] views, int view) {
        return Integer.bitCount(holders(views, view));
    }

    // ---- what is asked of arguments

    boolean isHead(int h) {
        return exists && h >= 0 && h < heads();
    }

    boolean isHour(int t) {
        return exists && t >= 0 && t <= hours;
    }

    static boolean isView(int v) {
        return v == 1 || v == 2;
    }

    static boolean isAny(int v) {
        return v >= 0 && v <= 2;
    }

    // ---- promises

    int feed(int a, int b, int c, int d, int e) {
        if (tape.length + 20 > 600) return -1;
        int from = tape.length;
        tape = Arrays.copyOf(tape, from + 20);
        java.nio.ByteBuffer.wrap(tape, from, 20).putInt(a).putInt(b).putInt(c).putInt(d).putInt(e);
        return tape.length;
    }

    int end(int n) {
        if (n < 0 || n > tape.length) return -1;
        tape = Arrays.copyOf(tape, n);
        return n;
    }

    int fault(int what) {
        return what == 0 ? fault : what == 1 ? place : -1;
    }

    int head(int h, int what) {
        if (!isHead(h) || what < 0 || what > 3) return -2;
        return new int[] {hard.get(h), holds.get(h), rowOf(h), placeOf(h)}[what];
    }

    int near(int h) {
        return isHead(h) ? bits(neighbours(h)) : -2;
    }

    int heads(int r) {
        return exists && r >= 0 && r < rows.size() ? bits(rows.get(r)) : -2;
    }

    int view(int h, int t) {
        return isHead(h) && isHour(t) ? plain().views[t][h] : -2;
    }

    int holding(int v, int t) {
        if (!isAny(v) || !isHour(t)) return -2;
        return holders(plain().views[t], v) & ~eaten(t);
    }

    int eaten(int t) {
        if (!isHour(t)) return -2;
        int b = 0;
        for (int h = 0; h < heads(); h++) if (plain().eaten[t][h]) b |= 1 << h;
        return b;
    }

    int turned(int t) {
        if (!isHour(t)) return -2;
        int b = 0;
        for (int h = 0; h < heads(); h++) {
            int before = t == 0 ? 0 : view(h, t - 1);
            if (view(h, t) != before) b |= 1 << h;
        }
        return b;
    }

    int sways(int h) {
        if (!isHead(h)) return -2;
        int n = 0;
        for (int t = 1; t <= hours; t++) if (view(h, t) != view(h, t - 1)) n++;
        return n;
    }

    int when(int h, int v) {
        if (!isHead(h) || !isView(v)) return -2;
        for (int t = 0; t <= hours; t++) if (view(h, t) == v) return t;
        return -1;
    }

    int often(int h, int v) {
        if (!isHead(h) || !isView(v)) return -2;
        int n = 0;
        for (int t = 0; t <= hours; t++) if (view(h, t) == v) n++;
        return n;
    }

    int heart(int h) {
        if (!isHead(h)) return -2;
        int a = when(h, 1);
        int b = when(h, 2);
        if (a < 0 && b < 0) return 0;
        if (b < 0) return 1;
        if (a < 0) return 2;
        return a < b ? 1 : 2;
    }

    int fickle() {
        if (!exists) return -2;
        int most = 0;
        for (int h = 0; h < heads(); h++) most = Math.max(most, sways(h));
        for (int h = 0; h < heads() && most > 0; h++) if (sways(h) == most) return h;
        return -1;
    }

    private boolean oneMind(List<Integer> set, int t) {
        Run run = plain();
        int n = 0;
        int[] of = new int[3];
        for (int h : set) {
            if (!run.eaten[t][h]) {
                n++;
                of[run.views[t][h]]++;
            }
        }
        return n > 0 && (of[1] == n || of[2] == n);
    }

    private List<Integer> all() {
        List<Integer> all = new ArrayList<>();
        for (int h = 0; h < heads(); h++) all.add(h);
        return all;
    }

    int agree() {
        if (!exists) return -2;
        for (int t = 0; t <= hours; t++) if (oneMind(all(), t)) return t;
        return -1;
    }

    int still() {
        if (!exists) return -2;
        Run run = plain();
        for (int t = 0; t <= hours; t++) {
            boolean same = true;
            for (int u = t; u <= hours; u++) same &= Arrays.equals(run.views[t], run.views[u]);
            if (same) return t;
        }
        throw new IllegalStateException();
    }

    int quiet() {
        if (!exists) return -2;
        int best = 0;
        for (int from = 1; from <= hours; from++) {
            for (int to = from; to <= hours; to++) {
                boolean calm = true;
                for (int t = from; t <= to; t++) calm &= turned(t) == 0;
                if (calm) best = Math.max(best, to - from + 1);
            }
        }
        return best;
    }

    private int[] circle() {
        Run run = plain();
        List<int[]> seen = new ArrayList<>();
        seen.add(run.views[hours]);
        while (true) {
            int[] last = seen.get(seen.size() - 1);
            int[] next = last.clone();
            for (int h = 0; h < heads(); h++) {
                if (!run.eaten[hours][h]) next[h] = taken(last, h, law, hard.get(h));
            }
            for (int i = 0; i < seen.size(); i++) {
                if (Arrays.equals(seen.get(i), next)) return new int[] {seen.size(), seen.size() - i};
            }
            seen.add(next);
        }
    }

    int settles() {
        return exists ? circle()[0] : -2;
    }

    int round() {
        return exists ? circle()[1] : -2;
    }

    int mind(int r, int t) {
        if (!exists || r < 0 || r >= rows.size() || !isHour(t)) return -2;
        int a = Integer.bitCount(holding(1, t) & heads(r));
        int b = Integer.bitCount(holding(2, t) & heads(r));
        return a > b ? 1 : b > a ? 2 : 0;
    }

    int rows(int v, int t) {
        if (!isView(v) || !isHour(t)) return -2;
        int b = 0;
        for (int r = 0; r < rows.size(); r++) if (mind(r, t) == v) b |= 1 << r;
        return b;
    }

    int split(int t) {
        if (!isHour(t)) return -2;
        return Math.abs(Integer.bitCount(holding(1, t)) - Integer.bitCount(holding(2, t)));
    }

    int main(int t) {
        if (!isHour(t)) return -2;
        return Integer.compare(Integer.bitCount(holding(1, t)), Integer.bitCount(holding(2, t))) == 0 ? 0
                : Integer.bitCount(holding(1, t)) > Integer.bitCount(holding(2, t)) ? 1 : 2;
    }

    int first(int v) {
        if (!exists || !isView(v)) return -2;
        for (int t = 0; t <= hours; t++) if (holding(v, t) != 0) return t;
        return -1;
    }

    int solid(int t) {
        if (!isHour(t)) return -2;
        int b = 0;
        for (int r = 0; r < rows.size(); r++) if (oneMind(rows.get(r), t)) b |= 1 << r;
        return b;
    }

    int longest(int v, int t) {
        if (!isAny(v) || !isHour(t)) return -2;
        int best = 0;
        int hold = holding(v, t);
        for (List<Integer> row : rows) {
            for (int i = 0; i < row.size(); i++) {
                for (int j = i; j < row.size(); j++) {
                    boolean so = true;
                    for (int k = i; k <= j; k++) so &= (hold >> row.get(k) & 1) != 0;
                    if (so) best = Math.max(best, j - i + 1);
                }
            }
        }
        return best;
    }

    int pull(int h, int t) {
        return isHead(h) && isHour(t) ? pull(plain().views[t], h, law) : -1000;
    }

    int tied(int t) {
        if (!isHour(t)) return -2;
        int b = 0;
        for (int h = 0; h < heads(); h++) if (pull(h, t) == 0 && (eaten(t) >> h & 1) == 0) b |= 1 << h;
        return b;
    }

    int since(int h) {
        if (!isHead(h)) return -2;
        for (int t = 0; t <= hours; t++) {
            boolean same = true;
            for (int u = t; u <= hours; u++) same &= view(h, u) == view(h, hours);
            if (same) return t;
        }
        throw new IllegalStateException();
    }

    int held(int h) {
        if (!isHead(h)) return -2;
        int best = 0;
        for (int v = 1; v <= 2; v++) {
            for (int from = 0; from <= hours; from++) {
                int to = from;
                while (to <= hours && view(h, to) == v) to++;
                best = Math.max(best, to - from);
            }
        }
        return best;
    }

    int hush(int t) {
        if (!isHour(t)) return -2;
        int b = 0;
        for (int h = 0; h < heads(); h++) {
            boolean so = view(h, t) == 0 && (eaten(t) >> h & 1) == 0;
            for (int n : neighbours(h)) so &= view(n, t) == 0;
            if (so) b |= 1 << h;
        }
        return b;
    }

    int lonely(int t) {
        if (!isHour(t)) return -2;
        int b = 0;
        for (int h = 0; h < heads(); h++) {
            boolean so = view(h, t) != 0;
            for (int n : neighbours(h)) so &= view(n, t) != view(h, t);
            if (so) b |= 1 << h;
        }
        return b;
    }

    int quarrels(int t) {
        if (!isHour(t)) return -2;
        int n = 0;
        for (int h = 0; h < heads(); h++) {
            for (int g = h + 1; g < heads(); g++) {
                if (neighbours(h).contains(g) && view(h, t) * view(g, t) == 2) n++;
            }
        }
        return n;
    }

    int never(int v) {
        if (!exists || !isView(v)) return -2;
        int b = 0;
        for (int h = 0; h < heads(); h++) if (when(h, v) == -1) b |= 1 << h;
        return b;
    }

    int most(int v) {
        if (!exists || !isView(v)) return -2;
        int best = 0;
        for (int t = 1; t <= hours; t++) {
            if (Integer.bitCount(holding(v, t)) > Integer.bitCount(holding(v, best))) best = t;
        }
        return best;
    }

    int tell(int v) {
        if (!exists || !isView(v)) return -2;
        int best = -1;
        for (int set = 0; set < 1 << heads(); set++) {
            Run run = told(v, set);
            boolean so = true;
            for (int h = 0; h < heads(); h++) so &= run.eaten[hours][h] || run.views[hours][h] == v;
            if (so && (best < 0 || Integer.bitCount(set) < Integer.bitCount(best))) best = set;
        }
        return best;
    }

    int fewest(int v) {
        int set = tell(v);
        return set < 0 ? set : Integer.bitCount(set);
    }

    int brings(int v, int set) {
        if (!exists || !isView(v) || set < 0 || set >= 1 << heads()) return -2;
        return number(told(v, set).views[hours], v);
    }

    int loud(int v) {
        if (!exists || !isView(v)) return -2;
        int best = -1;
        for (int h = 0; h < heads(); h++) {
            if (best < 0 || brings(v, 1 << h) > brings(v, 1 << best)) best = h;
        }
        return best;
    }

    int firm(int v) {
        if (!exists || !isView(v)) return -2;
        int b = 0;
        for (int h = 0; h < heads(); h++) {
            if (told(v, (1 << heads()) - 1 - (1 << h)).views[hours][h] != v) b |= 1 << h;
        }
        return b;
    }

    static long part(BigInteger above, BigInteger below, int what) {
        BigInteger g = above.gcd(below);
        return (what == 0 ? above : below).divide(g).longValueExact();
    }

    private long orders;
    private long sum;

    private void goOrders(int h, int v, int set, int[] brought) {
        if (set == (1 << heads()) - 1) {
            orders++;
            return;
        }
        for (int next = 0; next < heads(); next++) {
            if ((set >> next & 1) != 0) continue;
            long before = orders;
            goOrders(h, v, set | 1 << next, brought);
            if (next == h) sum += (orders - before) * (brought[set | 1 << h] - brought[set]);
        }
    }

    long share(int h, int v, int what) {
        if (!isHead(h) || !isView(v) || what < 0 || what > 1) return -2;
        if (heads() > 8) return -3;
        int[] brought = new int[1 << heads()];
        for (int set = 0; set < brought.length; set++) brought[set] = brings(v, set);
        orders = 0;
        sum = 0;
        goOrders(h, v, 0, brought);
        return part(BigInteger.valueOf(sum), BigInteger.valueOf(orders), what);
    }

    private long[] samples(int t, int n) {
        Run run = plain();
        int eaten = eaten(t);
        long all = 0;
        long good = 0;
        for (int set = 0; set < 1 << heads(); set++) {
            if (Integer.bitCount(set) != n || (set & eaten) != 0) continue;
            all++;
            int a = Integer.bitCount(set & holders(run.views[t], 1));
            int b = Integer.bitCount(set & holders(run.views[t], 2));
            if (a > b) good++;
        }
        return new long[] {good, all};
    }

    int alive(int t) {
        return heads() - Integer.bitCount(eaten(t));
    }

    long sample(int t, int n, int what) {
        if (!isHour(t) || what < 0 || what > 1 || n < 1 || n > alive(t)) return -2;
        long[] s = samples(t, n);
        return part(BigInteger.valueOf(s[0]), BigInteger.valueOf(s[1]), what);
    }

    int sure(int t) {
        if (!isHour(t)) return -2;
        for (int n = 1; n <= alive(t); n++) {
            if (sample(t, n, 0) * 2 >= sample(t, n, 1)) return n;
        }
        return -1;
    }

    private int duel(int h, int g) {
        Run run = run(law, new int[heads()], List.of(new Told(1, h), new Told(2, g)), new boolean[16]);
        return number(run.views[hours], 1) - number(run.views[hours], 2);
    }

    int replies(int h) {
        if (!isHead(h)) return -2;
        int best = 0;
        for (int g = 1; g < heads(); g++) if (duel(h, g) < duel(h, best)) best = g;
        return best;
    }

    int opens() {
        if (!exists) return -2;
        if (heads() == 0) return -1;
        int best = 0;
        for (int h = 1; h < heads(); h++) {
            if (duel(h, replies(h)) > duel(best, replies(best))) best = h;
        }
        return best;
    }

    int worth() {
        if (!exists || heads() == 0) return -1000;
        return duel(opens(), replies(opens()));
    }

    private int seen(int slot) {
        if (slot < 0 || slot > 3 || !exists) return -2;
        if (slots[slot] == null) return -6;
        long[] row = slots[slot];
        if (row.length % 3 != 0) return -2;
        for (int i = 0; i < row.length; i += 3) {
            if (row[i] < 0 || row[i] >= heads() || row[i + 1] < 0 || row[i + 1] > hours
                    || row[i + 2] < 0 || row[i + 2] > 2) return -2;
        }
        return 0;
    }

    private boolean fits(Run run, int slot) {
        long[] row = slots[slot];
        for (int i = 0; i < row.length; i += 3) {
            if (run.views[(int) row[i + 1]][(int) row[i]] != row[i + 2]) return false;
        }
        return true;
    }

    int whom(int slot, int v) {
        if (!isView(v)) return -2;
        if (seen(slot) != 0) return seen(slot);
        int b = 0;
        for (int h = 0; h < heads(); h++) if (fits(told(v, 1 << h), slot)) b |= 1 << h;
        return b;
    }

    private int[] question(int slot, int v) {
        List<Run> runs = new ArrayList<>();
        int whom = whom(slot, v);
        for (int h = 0; h < heads(); h++) if ((whom >> h & 1) != 0) runs.add(told(v, 1 << h));
        int best = runs.size();
        int code = -1;
        for (int h = 0; h < heads(); h++) {
            for (int t = 0; t <= hours; t++) {
                int[] n = new int[3];
                for (Run run : runs) n[run.views[t][h]]++;
                int worst = Math.max(n[0], Math.max(n[1], n[2]));
                if (worst < best) {
                    best = worst;
                    code = 100 * h + t;
                }
            }
        }
        return new int[] {code, best};
    }

    int ask(int slot, int v) {
        return whom(slot, v) < 0 ? whom(slot, v) : question(slot, v)[0];
    }

    int leaves(int slot, int v) {
        return whom(slot, v) < 0 ? whom(slot, v) : question(slot, v)[1];
    }

    private Run byLaw(int l) {
        return run(l, new int[heads()], List.of(), new boolean[16]);
    }

    int laws(int slot) {
        if (seen(slot) != 0) return seen(slot);
        int b = 0;
        for (int l = 0; l < 4; l++) if (fits(byLaw(l), slot)) b |= 1 << l;
        return b;
    }

    int by(int l) {
        if (!exists || l < 0 || l > 3) return -2;
        return holders(byLaw(l).views[hours], 1);
    }

    int law() {
        if (!exists) return -2;
        int best = 0;
        for (int l = 1; l < 4; l++) if (Integer.bitCount(by(l)) > Integer.bitCount(by(best))) best = l;
        return best;
    }

    int gets(int h, int g, int x, int y) {
        if (!isHead(h) || !isHead(g) || h == g || x < 0 || x > 1 || y < 0 || y > 1) return -1000;
        int[] harder = new int[heads()];
        harder[h] = x;
        harder[g] = y;
        Run run = run(law, harder, List.of(), new boolean[16]);
        int gets = -3 * x;
        for (int t = 1; t <= hours; t++) {
            if (run.views[t][h] != 0 && run.views[t][h] == run.views[t - 1][h]) gets += 2;
        }
        return gets;
    }

    int rests(int h, int g) {
        if (!isHead(h) || !isHead(g) || h == g) return -2;
        int b = 0;
        for (int x = 0; x < 2; x++) {
            for (int y = 0; y < 2; y++) {
                boolean first = gets(h, g, x, y) >= gets(h, g, 1 - x, y);
                boolean other = gets(g, h, y, x) >= gets(g, h, 1 - y, x);
                if (first && other) b |= new int[] {1, 2, 4, 8}[x + 2 * y];
            }
        }
        return b;
    }

    private boolean noWet(int t) {
        return !isHour(t) || t > 7 || t >= hours;
    }

    private interface Score {
        long of(int[] views);
    }

    private long expected(int t, int what, Score score) {
        BigInteger sum = BigInteger.ZERO;
        for (int pattern = 0; pattern < 1 << (t + 1); pattern++) {
            boolean[] wet = new boolean[16];
            long weight = 1;
            for (int u = 0; u <= t; u++) {
                wet[u] = (pattern >> u & 1) != 0;
                weight *= wet[u] ? odds : 10 - odds;
            }
            long s = score.of(wet(wet).views[t + 1]);
            sum = sum.add(BigInteger.valueOf(weight * s));
        }
        return part(sum, BigInteger.TEN.pow(t + 1), what);
    }

    long chance(int h, int v, int t, int what) {
        if (!isHead(h) || !isAny(v) || noWet(t) || what < 0 || what > 1) return -2;
        return expected(t, what, views -> views[h] == v ? 1 : 0);
    }

    long mean(int t, int what) {
        if (noWet(t) || what < 0 || what > 1) return -2;
        return expected(t, what, views -> number(views, 1));
    }

    int say(int v, int h, int t) {
        if (!isView(v) || !isHead(h) || !isHour(t)) return -2;
        if (acts.size() == 30) return -5;
        acts.add(new Event(v, h, t));
        return number(plain().views[hours], v);
    }

    int slug(int h, int t) {
        if (!isHead(h) || !isHour(t)) return -2;
        if (acts.size() == 30) return -5;
        acts.add(new Event(0, h, t));
        return eaten(hours);
    }

    int undo() {
        if (!exists) return -2;
        if (acts.isEmpty()) return -5;
        acts.remove(acts.size() - 1);
        return acts.size();
    }

    int anew() {
        if (!exists) return -2;
        int n = acts.size();
        acts.clear();
        return n;
    }

    private boolean[] summer(int seed) {
        boolean[] wet = new boolean[16];
        BigInteger x = BigInteger.valueOf(seed);
        for (int t = 0; t < hours; t++) {
            x = x.multiply(BigInteger.valueOf(1103515245)).add(BigInteger.valueOf(12345))
                    .mod(BigInteger.valueOf(2147483648L));
            wet[t] = x.divide(BigInteger.valueOf(65536)).mod(BigInteger.TEN).intValue() < odds;
        }
        return wet;
    }

    int drawn(int seed, int what) {
        if (!exists || seed < 0 || seed > 2000000000 || !isAny(what)) return -2;
        boolean[] wet = summer(seed);
        if (what > 0) return holders(wet(wet).views[hours], what);
        int b = 0;
        for (int t = 0; t < hours; t++) if (wet[t]) b |= 1 << t;
        return b;
    }

    int luck(int seed, int n, int h, int v) {
        if (seed < 0 || seed > 2000000000 || n < 1 || n > 20 || !isHead(h) || !isAny(v)) return -2;
        int lucky = 0;
        for (int i = 0; i < n; i++) if (wet(summer(seed + i)).views[hours][h] == v) lucky++;
        return lucky;
    }

    int rate(int h, int n) {
        if (!isHead(h) || n < 1 || n > 4) return -2;
        if (!acts.isEmpty()) return -5;
        return hard.set(h, n);
    }

    int count(int what) {
        if (what < 0 || what > 10) return -1;
        int slugs = (int) told.stream().filter(e -> e.view == 0).count();
        int rowsKept = 0;
        for (long[] s : slots) if (s != null) rowsKept++;
        return new int[] {hours, law, odds, rows.size(), heads(), told.size() - slugs, slugs,
            acts.size(), lines, tape.length, rowsKept}[what];
    }

    int image(int k) {
        if (k < 0 || k > 2) return -2;
        images[k] = new Model();
        images[k].take(this);
        return 0;
    }

    int back(int k) {
        if (k < 0 || k > 2) return -2;
        if (images[k] == null) return -6;
        take(images[k]);
        return 0;
    }

    int row(int slot, int width, int n) {
        if (slot < 0 || slot > 3 || width < 0 || width > 3 || n > 60) return -2;
        if (n < 0) return -3;
        slots[slot] = new long[n];
        widths[slot] = width;
        return 0;
    }

    int write(int slot, int i, long v) {
        if (slot < 0 || slot > 3) return -2;
        if (slots[slot] == null) return -6;
        if (i < 0 || i >= slots[slot].length) return -7;
        int cut = 64 - (8 << widths[slot]);
        slots[slot][i] = v << cut >> cut;
        return 0;
    }

    int paste(int slot, int i, int to, int k, int n) {
        if (slot < 0 || slot > 3 || to < 0 || to > 3) return -2;
        if (slots[slot] == null || slots[to] == null) return -6;
        if (widths[slot] != widths[to]) return -8;
        long[] source = slots[slot].clone();
        try {
            System.arraycopy(source, i, slots[to], k, n);
        } catch (IndexOutOfBoundsException e) {
            return -7;
        }
        return 0;
    }
}
