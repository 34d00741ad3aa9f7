import java.util.Random;

/** Random gardens and random calls: the class answers as the plain model does. */
public final class ModelTest {
    private final Check check = new Check();
    private final Random random;
    private CabbageViews x;
    private Model m;
    private String run;

    private ModelTest(long seed) {
        random = new Random(seed);
    }

    public static void main(String[] args) {
        ModelTest test = new ModelTest(args.length > 0 ? Long.parseLong(args[0]) : 1);
        int gardens = args.length > 1 ? Integer.parseInt(args[1]) : 300;
        for (int i = 0; i < gardens && test.check.wrongSoFar() < 40; i++) {
            test.goThroughGarden(i);
        }
        for (int i = 0; i < 40 * gardens && test.check.wrongSoFar() < 40; i++) {
            test.readBroken(i);
        }
        test.check.finish();
    }

    private int below(int n) {
        return random.nextInt(n);
    }

    private void due(String call, long got, long want) {
        check.due(run + ": " + call, got, want);
    }

    // ---- texts

    private String gardenText(int mostHeads) {
        StringBuilder b = new StringBuilder();
        int hours = 1 + below(16);
        b.append("garden hours ").append(hours).append(" law ").append(below(4));
        b.append(" odds ").append(below(11)).append(";");
        int heads = 0;
        int rows = 1 + below(4);
        boolean soft = below(2) == 0;
        for (int r = 0; r < rows && heads < mostHeads; r++) {
            int n = 1 + below(Math.min(8, mostHeads - heads));
            b.append(" row");
            for (int i = 0; i < n; i++) {
                b.append(" hard ").append(1 + below(soft ? 2 : 4));
                if (below(4) == 0) b.append(" holds ").append(1 + below(below(3) == 0 ? 16 : 4));
            }
            heads += n;
            b.append(";\n");
        }
        for (int i = below(9); i > 0; i--) {
            b.append("say ").append(1 + below(2)).append(" to ").append(below(heads));
            b.append(" at ").append(below(below(2) == 0 ? 1 : 16)).append("; ");
        }
        for (int i = below(5); i > 0; i--) {
            b.append("slug to ").append(below(heads)).append(" at ").append(below(16)).append(";");
        }
        return b.toString();
    }

    /** A text with some tokens left out, doubled or put in place of others. */
    private String broken(String text) {
        String[] words = {"garden", "hours", "law", "odds", "row", "hard", "holds", "say", "to", "at",
            "slug", ";", "0", "1", "2", "3", "4", "5", "12", "16", "17", "x", "Row", "#", "99999999999",
            "007", "\t", "", "", "row hard 1;", "say 1 to 0 at 0;", "slug to 0 at 0;", "\u00e9"};
        StringBuilder b = new StringBuilder();
        String[] tokens = text.split("(?<=[ ;])");
        int changes = 1 + below(3);
        int rate = 1 + tokens.length / changes;
        for (String token : tokens) {
            int what = below(rate) == 0 ? below(4) : 9;
            if (what == 0) {
                b.append(words[below(words.length)]).append(' ');
            } else if (what == 1) {
                b.append(token).append(words[below(words.length)]).append(below(2) == 0 ? " " : "");
            } else if (what == 2) {
                b.append(token).append(token);
            } else if (what != 3) {
                b.append(token);
            }
        }
        if (b.length() > 600) b.setLength(600);
        if (below(4) == 0 && b.length() > 0) b.setLength(below(b.length()));
        return b.toString();
    }

    private void put(String text) {
        Check.put(x, text);
        m.tape = text.getBytes(java.nio.charset.StandardCharsets.ISO_8859_1);
        due("count(9)", x.count(9), m.count(9));
    }

    private void readBroken(int i) {
        x = new CabbageViews();
        m = new Model();
        String text = broken(gardenText(12));
        run = "broken " + i + " <" + text + ">";
        put(text);
        due("garden()", x.garden(), m.garden());
        due("fault(0)", x.fault(0), m.fault(0));
        due("fault(1)", x.fault(1), m.fault(1));
        for (int what = -1; what <= 11; what++) due("count(" + what + ")", x.count(what), m.count(what));
    }

    // ---- gardens

    private void goThroughGarden(int i) {
        x = new CabbageViews();
        m = new Model();
        String text = gardenText(i % 3 == 0 ? 12 : 6);
        run = "garden " + i + " <" + text + ">";
        put(text);
        due("garden()", x.garden(), m.garden());
        askWhatIsDear();
        askAll();
        for (int round = 0; round < 4; round++) {
            change();
            askAll();
        }
        askWhatIsDear();
    }

    private void change() {
        for (int i = 0; i < 4; i++) {
            int h = below(13) - 1;
            int t = below(18) - 1;
            switch (below(9)) {
                case 0, 1, 2 -> {
                    int v = below(8) == 0 ? below(5) - 1 : 1 + below(2);
                    due("say(" + v + ", " + h + ", " + t + ")", x.say(v, h, t), m.say(v, h, t));
                }
                case 3, 4 -> due("slug(" + h + ", " + t + ")", x.slug(h, t), m.slug(h, t));
                case 5 -> due("undo()", x.undo(), m.undo());
                case 6 -> {
                    if (below(3) == 0) due("anew()", x.anew(), m.anew());
                    int n = below(7) - 1;
                    due("rate(" + h + ", " + n + ")", x.rate(h, n), m.rate(h, n));
                }
                case 7 -> due("image", x.image(t % 4), m.image(t % 4));
                default -> due("back", x.back(t % 4), m.back(t % 4));
            }
        }
    }

    /** What the model finds only by going through thousands of runs. */
    private void askWhatIsDear() {
        int v = below(4);
        due("fewest(" + v + ")", x.fewest(v), m.fewest(v));
        due("tell(" + v + ")", x.tell(v), m.tell(v));
        due("worth()", x.worth(), m.worth());
        due("opens()", x.opens(), m.opens());
        int h = below(13) - 1;
        for (int what = 0; what < 3; what++) {
            due("share(" + h + ", " + v + ", " + what + ")", x.share(h, v, what), m.share(h, v, what));
        }
        int t = below(10) - 1;
        for (int what = 0; what < 3; what++) {
            due("chance(" + h + ", " + v + ", " + t + ", " + what + ")", x.chance(h, v, t, what),
                    m.chance(h, v, t, what));
            due("mean(" + t + ", " + what + ")", x.mean(t, what), m.mean(t, what));
        }
    }

    private void askAll() {
        askWhole();
        for (int i = 0; i < 6; i++) {
            int h = below(14) - 1;
            int t = below(m.hours + 3) - 1;
            int v = below(4);
            askOfHours(t, v);
            askOfHeads(h, t, v);
        }
        askOfSlots();
    }

    private void askWhole() {
        due("fickle()", x.fickle(), m.fickle());
        due("agree()", x.agree(), m.agree());
        due("still()", x.still(), m.still());
        due("quiet()", x.quiet(), m.quiet());
        due("settles()", x.settles(), m.settles());
        due("round()", x.round(), m.round());
        due("law()", x.law(), m.law());
        for (int i = -1; i < 12; i++) due("count(" + i + ")", x.count(i), m.count(i));
        for (int i = -1; i < 5; i++) {
            due("by(" + i + ")", x.by(i), m.by(i));
            due("heads(" + i + ")", x.heads(i), m.heads(i));
        }
        for (int v = 0; v < 4; v++) {
            due("first(" + v + ")", x.first(v), m.first(v));
            due("never(" + v + ")", x.never(v), m.never(v));
            due("most(" + v + ")", x.most(v), m.most(v));
            due("loud(" + v + ")", x.loud(v), m.loud(v));
            due("firm(" + v + ")", x.firm(v), m.firm(v));
        }
    }

    private void askOfHours(int t, int v) {
        String of = "(" + t + ")";
        String with = "(" + v + ", " + t + ")";
        due("holding" + with, x.holding(v, t), m.holding(v, t));
        due("eaten" + of, x.eaten(t), m.eaten(t));
        due("turned" + of, x.turned(t), m.turned(t));
        due("rows" + with, x.rows(v, t), m.rows(v, t));
        due("split" + of, x.split(t), m.split(t));
        due("main" + of, x.main(t), m.main(t));
        due("solid" + of, x.solid(t), m.solid(t));
        due("longest" + with, x.longest(v, t), m.longest(v, t));
        due("tied" + of, x.tied(t), m.tied(t));
        due("hush" + of, x.hush(t), m.hush(t));
        due("lonely" + of, x.lonely(t), m.lonely(t));
        due("quarrels" + of, x.quarrels(t), m.quarrels(t));
        due("sure" + of, x.sure(t), m.sure(t));
        int n = below(14);
        for (int what = 0; what < 3; what++) {
            due("sample(" + t + ", " + n + ", " + what + ")", x.sample(t, n, what), m.sample(t, n, what));
        }
        int r = below(6) - 1;
        due("mind(" + r + ", " + t + ")", x.mind(r, t), m.mind(r, t));
    }

    private void askOfHeads(int h, int t, int v) {
        String of = "(" + h + ")";
        String with = "(" + h + ", " + v + ")";
        for (int what = -1; what < 5; what++) due("head" + of + what, x.head(h, what), m.head(h, what));
        due("near" + of, x.near(h), m.near(h));
        due("view(" + h + ", " + t + ")", x.view(h, t), m.view(h, t));
        due("sways" + of, x.sways(h), m.sways(h));
        due("when" + with, x.when(h, v), m.when(h, v));
        due("often" + with, x.often(h, v), m.often(h, v));
        due("heart" + of, x.heart(h), m.heart(h));
        due("pull(" + h + ", " + t + ")", x.pull(h, t), m.pull(h, t));
        due("since" + of, x.since(h), m.since(h));
        due("held" + of, x.held(h), m.held(h));
        int set = below(4200) - 10;
        if (below(2) == 0) set &= (1 << m.heads()) - 1;
        due("brings(" + v + ", " + set + ")", x.brings(v, set), m.brings(v, set));
        due("replies" + of, x.replies(h), m.replies(h));
        int g = below(13);
        int a = below(3);
        int b = below(3) - below(2);
        due("gets(" + h + ", " + g + ", " + a + ", " + b + ")", x.gets(h, g, a, b), m.gets(h, g, a, b));
        due("rests(" + h + ", " + g + ")", x.rests(h, g), m.rests(h, g));
        int seed = below(3) == 0 ? 2000000000 - below(3) + 1 : below(2000000000);
        due("drawn(" + seed + ", " + v + ")", x.drawn(seed, v), m.drawn(seed, v));
        int n = below(22);
        due("luck(" + seed + ", " + n + ", " + h + ", " + v + ")", x.luck(seed, n, h, v),
                m.luck(seed, n, h, v));
    }

    private void askOfSlots() {
        int slot = below(6) - 1;
        int width = below(20) == 0 ? below(7) - 1 : below(4);
        int triples = below(4);
        int n = below(8) == 0 ? below(64) - 2 : 3 * triples;
        due("row(" + slot + ", " + width + ", " + n + ")", x.row(slot, width, n), m.row(slot, width, n));
        // Mostly what is so with a head told, so that some head fits.
        Model.Run shown = m.told(1 + below(2), m.heads() == 0 ? 0 : 1 << below(m.heads()));
        for (int i = 0; i + 2 < n && m.heads() > 0; i += 3) {
            int h = below(m.heads());
            int t = below(m.hours + 1);
            int v = below(10) == 0 ? below(4) : shown.views[t][h];
            write(slot, i, h + (below(3) == 0 ? 256L : 0L));
            write(slot, i + 1, t);
            write(slot, i + 2, v);
        }
        if (below(8) == 0) write(slot, below(62) - 1, random.nextLong());
        int to = below(6) - 1;
        int i = below(n > 0 ? n : 3) - below(2);
        int k = below(5) - below(2);
        int many = below(5) - below(2);
        if (below(2) == 0) to = slot;
        due("paste(" + slot + ", " + i + ", " + to + ", " + k + ", " + many + ")",
                x.paste(slot, i, to, k, many), m.paste(slot, i, to, k, many));
        for (int s = -1; s < 5; s++) {
            for (int v = 0; v < 4; v++) {
                String of = "(" + s + ", " + v + ")";
                due("whom" + of, x.whom(s, v), m.whom(s, v));
                due("ask" + of, x.ask(s, v), m.ask(s, v));
                due("leaves" + of, x.leaves(s, v), m.leaves(s, v));
            }
            due("laws(" + s + ")", x.laws(s), m.laws(s));
        }
    }

    private void write(int slot, int i, long v) {
        due("write(" + slot + ", " + i + ", " + v + ")", x.write(slot, i, v), m.write(slot, i, v));
    }
}
