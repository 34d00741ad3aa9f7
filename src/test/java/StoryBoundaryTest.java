/** Boundary cases of promises 9 to 38: who holds which view, hour by hour. */
public final class StoryBoundaryTest {
    /** Views, hour by hour: 100, 110, 111, 111, 111. */
    private static final String ALONG = "garden hours 4 law 0 odds 10;row hard 1 hard 1 hard 1;say 1 to 0 at 0;";
    /** Views, hour by hour: 12, 21, 12, 21, 12. */
    private static final String SWING = "garden hours 4 law 0 odds 0;row hard 1 hard 1;say 1 to 0 at 0;say 2 to 1 at 0;";
    /** Three heads that nobody sways. */
    private static final String HARD = "garden hours 4 law 0 odds 0;row hard 4 hard 4 hard 4;";
    private static final String BARE = "garden hours 3 law 0 odds 0;";
    private static final String ONE = "garden hours 1 law 0 odds 0;";

    private static final String[] LAWS = {
        "if they are more by its hard at least (else it keeps its own), by LAW, 0: so.",
        "1: so, but NEIGHBOURS in its ROW count twice (more by its hard of what is so counted).",
        "2: so, but only if it has none.",
        "3: so, but its own VIEW (1 or 2) counts as one NEIGHBOUR's."};

    private final Bounds bounds = new Bounds();

    private StoryBoundaryTest() throws Exception {
    }

    public static void main(String[] args) throws Exception {
        StoryBoundaryTest test = new StoryBoundaryTest();
        test.saidHourByHour();
        test.eatenHourByHour();
        test.moreByHard();
        test.holdingOut();
        test.allAtOnce();
        test.viewAndHolding();
        test.eatenAndTurned();
        test.sways();
        test.whenAndOften();
        test.hearts();
        test.fickle();
        test.agree();
        test.stillAndQuiet();
        test.settling();
        test.goingRound();
        test.minds();
        test.splitAndMain();
        test.firstOfAll();
        test.solidRows();
        test.longestInARow();
        test.pulls();
        test.tied();
        test.sinceAndHeld();
        test.hushAndLonely();
        test.quarrels();
        test.neverAndMost();
        test.bounds.finish(9, 38);
    }

    private void due(String call, long got, long want) {
        bounds.due(call, got, want);
    }

    private static CabbageViews plant(String text) {
        return Check.planted(text);
    }

    private static CabbageViews no() {
        return new CabbageViews();
    }

    /** The views of an hour, head 0 first, x for one that is eaten. */
    private static String views(CabbageViews x, int hour) {
        StringBuilder b = new StringBuilder();
        for (int h = 0; h < x.count(4); h++) {
            b.append((x.eaten(hour) >> h & 1) != 0 ? "x" : "" + x.view(h, hour));
        }
        return b.toString();
    }

    private void story(CabbageViews x, String... hours) {
        for (int t = 0; t < hours.length; t++) {
            String found = views(x, t);
            due("hour " + t + " is " + found + ", due is " + hours[t], found.equals(hours[t]) ? 1 : 0, 1);
        }
        due("so many hours", x.count(0), hours.length - 1);
    }

    // ---- III and IV, on which promise 9 rests

    private void saidHourByHour() {
        bounds.term(9, "VIEWS: 0 (none), 1, 2; 0 at first");
        story(plant("garden hours 2 law 0 odds 0;row hard 1 hard 1;"), "00", "00", "00");
        bounds.term(9, "In each HOUR first what is SAID in it (told, then by acts, each in order) is held by the HEAD"
                + " at once (not by one that is eaten)");
        String line = "garden hours 2 law 0 odds 0;row hard 4;";
        story(plant(line + "say 1 to 0 at 1;say 2 to 0 at 1;"), "0", "2", "2");
        story(plant(line + "say 2 to 0 at 1;say 1 to 0 at 1;"), "0", "1", "1");
        CabbageViews x = plant(line + "say 2 to 0 at 2;say 1 to 0 at 0;");
        story(x, "1", "1", "2");
        x.say(1, 0, 2);
        story(x, "1", "1", "1");
        x.say(2, 0, 2);
        x.say(2, 0, 0);
        story(x, "2", "2", "2");
        // What is said in hour 1 stands above what was passed on to it.
        story(plant("garden hours 2 law 0 odds 0;row hard 1 hard 1;say 1 to 0 at 0;say 2 to 1 at 1;"),
                "10", "12", "21");
        story(plant("garden hours 2 law 0 odds 0;row hard 4;slug to 0 at 0;say 1 to 0 at 1;"), "x", "x", "x");
        story(plant(ONE + "row hard 4;say 1 to 0 at 1;say 2 to 0 at 2;"), "0", "1");
        // Hour 1 would be 21, but both are said once more what they held: hour 2 is 21.
        story(plant("garden hours 2 law 0 odds 0;row hard 1 hard 1;say 1 to 0 at 0;say 2 to 1 at 0;say 1 to 0 at 1;"
                + "say 2 to 1 at 1;"), "12", "12", "21");
    }

    private void eatenHourByHour() {
        bounds.term(9, "then a SLUG of it (told or of acts) eats its HEAD: it is gone from then on (its VIEW is 0, it is"
                + " nobody's NEIGHBOUR, nothing is passed to it)");
        story(plant("garden hours 2 law 0 odds 0;row hard 1 hard 1;say 1 to 0 at 0;slug to 0 at 0;"),
                "x0", "x0", "x0");
        story(plant("garden hours 2 law 0 odds 0;row hard 1 hard 1;slug to 0 at 1;say 1 to 0 at 1;"),
                "00", "x0", "x0");
        story(plant("garden hours 2 law 0 odds 0;row hard 1 hard 1;say 1 to 0 at 0;slug to 0 at 1;"),
                "10", "x1", "x1");
        CabbageViews x = plant("garden hours 2 law 0 odds 0;row hard 1 hard 1;say 1 to 0 at 0;");
        x.slug(1, 2);
        story(x, "10", "11", "1x");
        x.slug(1, 1);
        x.slug(1, 1);
        x.say(2, 1, 2);
        story(x, "10", "1x", "1x");
        due("view(1, 2) of one that is gone", x.view(1, 2), 0);
    }

    /** A head with four neighbours, heads 2 and 4 of its row among them; each holds a view or is eaten. */
    private static CabbageViews cross(int law, int hard, int own, int[] around) {
        CabbageViews x = plant("garden hours 1 law " + law + " odds 0;row hard 4 hard 4;row hard 4 hard " + hard
                + " hard 4;row hard 4 hard 4;");
        int[] places = {2, 4, 1, 6};
        if (own != 0) x.say(own, 3, 0);
        for (int i = 0; i < 4; i++) {
            if (around[i] == 3) x.slug(places[i], 0);
            else if (around[i] != 0) x.say(around[i], places[i], 0);
        }
        return x;
    }

    private static int takes(int law, int hard, int own, int lead) {
        if (law == 2 && own != 0 || Math.abs(lead) < hard) return own;
        return lead > 0 ? 1 : 2;
    }

    private void moreByHard() {
        for (int law = 0; law < 4; law++) {
            for (int code = 0; code < 256 * 3; code++) {
                int[] around = {code & 3, code >> 2 & 3, code >> 4 & 3, code >> 6 & 3};
                int own = code >> 8;
                int lead = law == 3 ? (own == 1 ? 1 : own == 2 ? -1 : 0) : 0;
                for (int i = 0; i < 4; i++) {
                    int weight = law == 1 && i < 2 ? 2 : 1;
                    lead += around[i] == 1 ? weight : around[i] == 2 ? -weight : 0;
                }
                String told = "law " + law + ", own view " + own + ", around it " + java.util.Arrays.toString(around);
                bounds.promise(30, "How many more (as IV counts by LAW; by 3 its own VIEW, too) of its NEIGHBOURS"
                        + " (not eaten) hold 1 than 2 (below 0: 2 than 1) in an HOUR");
                due(told, cross(law, 1, own, around).pull(3, 0), lead);
                bounds.promise(31, "HEADS, not eaten, of whose NEIGHBOURS (as pull()) neither more hold 1 nor more 2");
                due(told, cross(law, 1, own, around).tied(0) >> 3 & 1, lead == 0 ? 1 : 0);
                bounds.term(9, LAWS[law]);
                for (int hard = 1; hard <= 4; hard++) {
                    due("hard " + hard + ", " + told, cross(law, hard, own, around).view(3, 1),
                            takes(law, hard, own, lead));
                }
            }
        }
    }

    private void holdingOut() {
        bounds.term(9, "A HEAD takes none as long as the HOUR from which it goes is below its holds");
        for (int holds = 1; holds <= 16; holds++) {
            CabbageViews x = plant("garden hours 16 law 0 odds 0;row hard 1 hard 1 holds " + holds
                    + ";say 1 to 0 at 0;");
            due("holds " + holds + ": it takes 1 from that hour to the next",
                    x.when(1, 1), holds < 16 ? holds + 1 : -1);
            CabbageViews y = plant("garden hours 16 law 0 odds 0;row hard 1 holds " + holds + " hard 1;say 1 to 1 at 0;");
            due("holds " + holds + " of head 0: it takes 1 then", y.when(0, 1), holds < 16 ? holds + 1 : -1);
        }
        CabbageViews x = plant("garden hours 3 law 0 odds 0;row hard 1 hard 1 holds 3;say 1 to 0 at 0;"
                + "say 2 to 1 at 1;slug to 1 at 3;");
        story(x, "10", "12", "22", "2x");
    }

    private void allAtOnce() {
        bounds.term(9, "From an HOUR to the next all HEADS at once");
        // One after the other, head 1 would have taken from head 0 what that one took in the same hour.
        story(plant("garden hours 2 law 0 odds 0;row hard 1 hard 1 hard 1;say 1 to 0 at 0;"), "100", "110", "111");
        story(plant("garden hours 2 law 0 odds 0;row hard 1 hard 1 hard 1;say 1 to 2 at 0;"), "001", "011", "111");
        story(plant("garden hours 2 law 0 odds 0;row hard 1 hard 1;say 1 to 0 at 0;say 2 to 1 at 0;"), "12", "21", "12");
        bounds.term(9, "HOURS 0 .. hours");
        for (int hours = 1; hours <= 16; hours++) {
            CabbageViews x = plant("garden hours " + hours + " law 0 odds 0;row hard 1;say 1 to 0 at 0;");
            bounds.only("view(0, ..) of hours " + hours, t -> x.view(0, t), 0, hours, -2);
        }
    }

    // ---- promises 9 to 12

    private void viewAndHolding() {
        bounds.promise(9, "-2: there are none such");
        bounds.heads("view(.., 4)", (x, h) -> x.view(h, 4), -2);
        bounds.heads("view(.., 0)", (x, h) -> x.view(h, 0), -2);
        bounds.hoursOfHeads("view(1, ..)", (x, t) -> x.view(1, t), -2);
        bounds.promise(10, "HEADS that hold a VIEW (0 .. 2; of those not eaten) in an HOUR, as bits");
        CabbageViews x = plant(HARD + "say 1 to 0 at 0;say 2 to 1 at 0;slug to 2 at 1;slug to 1 at 2;");
        due("holding(0, 0)", x.holding(0, 0), 4);
        due("holding(0, 1), the only one is eaten", x.holding(0, 1), 0);
        due("holding(2, 1)", x.holding(2, 1), 2);
        due("holding(2, 2), the only one is eaten", x.holding(2, 2), 0);
        due("holding(1, 4)", x.holding(1, 4), 1);
        CabbageViews twelve = plant(ONE + "row hard 1 hard 1 hard 1;".repeat(4));
        due("holding(0, 1) of twelve", twelve.holding(0, 1), 4095);
        twelve.say(2, 11, 1);
        due("holding(2, 1), the twelfth", twelve.holding(2, 1), 2048);
        due("holding(1, 1)", twelve.holding(1, 1), 0);
        bounds.promise(10, "-2 likewise");
        bounds.views("holding(.., 4)", (y, v) -> y.holding(v, 4), 0, -2);
        for (int v = 0; v <= 2; v++) {
            int view = v;
            bounds.hours("holding(" + v + ", ..)", (y, t) -> y.holding(view, t), -2);
        }
    }

    private void eatenAndTurned() {
        bounds.promise(11, "HEADS that are eaten by an HOUR, as bits");
        CabbageViews x = plant(HARD + "slug to 1 at 0;slug to 0 at 4;slug to 2 at 5;slug to 1 at 3;");
        due("eaten(0)", x.eaten(0), 2);
        due("eaten(3)", x.eaten(3), 2);
        due("eaten(4), the last", x.eaten(4), 3);
        due("eaten(0), nobody", plant(HARD).eaten(0), 0);
        bounds.promise(11, "-2: there is none such, no GARDEN");
        bounds.hours("eaten", CabbageViews::eaten, -2);
        bounds.promise(12, "HEADS whose VIEW is another than in the HOUR ahead, as bits (HOUR 0: those with one)");
        x = plant(HARD + "say 1 to 0 at 0;say 2 to 1 at 0;say 2 to 2 at 0;slug to 2 at 0;say 2 to 0 at 3;"
                + "say 2 to 1 at 3;slug to 1 at 4;");
        due("turned(0): head 2 is eaten", x.turned(0), 3);
        due("turned(1): nobody", x.turned(1), 0);
        due("turned(3): head 1 held 2 ahead", x.turned(3), 1);
        due("turned(4): head 1 holds none then", x.turned(4), 2);
        due("turned(0): from none to 2 as well", plant(SWING).turned(0), 3);
        due("turned(4): from 1 to 2, from 2 to 1", plant(SWING).turned(4), 3);
        due("turned(0) of nothing said", plant(HARD).turned(0), 0);
        bounds.promise(12, "-2 likewise");
        bounds.hours("turned", CabbageViews::turned, -2);
    }

    // ---- promises 13 to 17

    private void sways() {
        bounds.promise(13, "How often the VIEW of a HEAD is another than in the HOUR ahead, in all (from HOUR 1 on)");
        due("sways(0), said in hour 0 alone", plant(ALONG).sways(0), 0);
        due("sways(2), taken once", plant(ALONG).sways(2), 1);
        due("sways(1), each hour, the last one, too", plant(SWING).sways(1), 4);
        CabbageViews x = plant(HARD + "say 1 to 0 at 4;say 1 to 1 at 1;slug to 1 at 2;");
        due("sways(0), in the last hour", x.sways(0), 1);
        due("sways(1), taken and eaten", x.sways(1), 2);
        due("sways(2), never", x.sways(2), 0);
        CabbageViews most = plant("garden hours 16 law 0 odds 0;row hard 1 hard 1;say 1 to 0 at 0;say 2 to 1 at 0;");
        due("sways(0) of sixteen hours", most.sways(0), 16);
        bounds.promise(13, "-2: there is none such");
        bounds.heads("sways", CabbageViews::sways, -2);
    }

    private void whenAndOften() {
        bounds.promise(14, "The first HOUR in which a HEAD holds a VIEW (1 or 2). NONE: in none");
        CabbageViews x = plant(HARD + "say 1 to 0 at 0;say 2 to 1 at 4;say 1 to 2 at 1;slug to 2 at 1;");
        due("when(0, 1), in hour 0", x.when(0, 1), 0);
        due("when(1, 2), in the last hour", x.when(1, 2), 4);
        due("when(1, 1)", x.when(1, 1), -1);
        due("when(2, 1), eaten in the same hour", x.when(2, 1), -1);
        due("when(0, 2) of the second hour", plant(SWING).when(0, 2), 1);
        bounds.promise(14, "-2: there are none such");
        bounds.heads("when(.., 1)", (y, h) -> y.when(h, 1), -2);
        bounds.views("when(0, ..)", (y, v) -> y.when(0, v), 1, -2);
        bounds.promise(15, "In how many HOURS it does");
        due("often(0, 1), in all", x.often(0, 1), 5);
        due("often(1, 2), in one", x.often(1, 2), 1);
        due("often(2, 1), in none", x.often(2, 1), 0);
        due("often(0, 1), each second hour", plant(SWING).often(0, 1), 3);
        due("often(0, 2), each second hour", plant(SWING).often(0, 2), 2);
        CabbageViews most = plant("garden hours 16 law 0 odds 0;row hard 1;say 2 to 0 at 0;");
        due("often(0, 2) of sixteen hours", most.often(0, 2), 17);
        bounds.promise(15, "-2 likewise");
        bounds.heads("often(.., 2)", (y, h) -> y.often(h, 2), -2);
        bounds.views("often(0, ..)", (y, v) -> y.often(0, v), 1, -2);
    }

    private void hearts() {
        bounds.promise(16, "HEART: the first VIEW that a HEAD holds (0: none ever)");
        CabbageViews x = plant(HARD + "say 1 to 0 at 4;say 2 to 2 at 3;slug to 2 at 3;say 2 to 1 at 0;say 1 to 1 at 1;");
        due("heart(0), of the last hour", x.heart(0), 1);
        due("heart(1), the first of two", x.heart(1), 2);
        due("heart(2), eaten as it is said", x.heart(2), 0);
        due("heart(0) of nothing said", plant(HARD).heart(0), 0);
        bounds.promise(16, "-2: there is none such");
        bounds.heads("heart", CabbageViews::heart, -2);
    }

    private void fickle() {
        bounds.promise(17, "The HEAD with most sways(), the first of several, if above 0. NONE: none; -2: there is no GARDEN");
        due("fickle(), both as often", plant(SWING).fickle(), 0);
        due("fickle(), heads 1 and 2 once", plant(ALONG).fickle(), 1);
        due("fickle(), the last head in the last hour", plant(HARD + "say 1 to 2 at 4;").fickle(), 2);
        due("fickle(), in hour 0 alone", plant(HARD + "say 1 to 2 at 0;").fickle(), -1);
        due("fickle(), no heads", plant(BARE).fickle(), -1);
        due("fickle(), no garden", no().fickle(), -2);
    }

    // ---- promises 18 to 22

    private void agree() {
        bounds.promise(18, "The first HOUR in which all HEADS that are not eaten (there is one) hold one VIEW (1 or 2)."
                + " NONE: in none; -2 likewise");
        due("agree()", plant(ALONG).agree(), 2);
        due("agree() in hour 0", plant(ONE + "row hard 4;say 2 to 0 at 0;").agree(), 0);
        due("agree() in the last hour alone",
                plant(HARD + "say 2 to 0 at 4;say 2 to 1 at 4;say 2 to 2 at 4;").agree(), 4);
        due("agree() by a slug", plant(HARD + "say 2 to 0 at 0;say 2 to 1 at 0;slug to 2 at 3;").agree(), 3);
        due("agree(), one is left", plant(HARD + "say 1 to 0 at 0;slug to 1 at 2;slug to 2 at 1;").agree(), 2);
        due("agree(), nobody is left", plant(HARD + "slug to 0 at 0;slug to 1 at 0;slug to 2 at 0;").agree(), -1);
        due("agree(), nothing is said", plant(HARD).agree(), -1);
        due("agree(), by turns", plant(SWING).agree(), -1);
        due("agree(), no heads", plant(BARE).agree(), -1);
        due("agree(), no garden", no().agree(), -2);
    }

    private void stillAndQuiet() {
        bounds.promise(19, "The first HOUR from which on no VIEW changes to the last one. -2 likewise");
        due("still()", plant(ALONG).still(), 2);
        due("still(), from hour 0", plant(HARD + "say 1 to 0 at 0;").still(), 0);
        due("still(), the last hour changes", plant(HARD + "say 1 to 0 at 4;").still(), 4);
        due("still(), each changes", plant(SWING).still(), 4);
        due("still(), no heads", plant(BARE).still(), 0);
        due("still(), no garden", no().still(), -2);
        bounds.promise(20, "The most HOURS one behind the other (from 1 on) in which no VIEW is another than in the HOUR"
                + " ahead. -2 likewise");
        due("quiet()", plant(ALONG).quiet(), 2);
        due("quiet(), all", plant(HARD + "say 1 to 0 at 0;").quiet(), 4);
        due("quiet(), none", plant(SWING).quiet(), 0);
        due("quiet(), ahead of the last hour", plant(HARD + "say 1 to 0 at 4;").quiet(), 3);
        due("quiet(), 1 and 2 hours", plant(HARD + "say 1 to 0 at 2;").quiet(), 2);
        due("quiet(), 2 and 1 hours", plant(HARD + "say 1 to 0 at 3;").quiet(), 2);
        due("quiet(), no heads", plant(BARE).quiet(), 3);
        due("quiet(), no garden", no().quiet(), -2);
    }

    private void settling() {
        bounds.promise(21, "after how many HOURS all VIEWS are as in an earlier one (the last one counts) for the first time");
        due("settles(), at rest already", plant(ALONG).settles(), 1);
        due("settles(), by turns", plant(SWING).settles(), 2);
        due("settles(), no heads", plant(BARE).settles(), 1);
        String eight = ONE + "row" + " hard 1".repeat(8) + ";";
        // Hour 1 is 11000000: six hours more, and one in which nothing changes.
        due("settles(), along a row", plant(eight + "say 1 to 0 at 0;").settles(), 7);
        due("settles(), nothing said", plant(eight).settles(), 1);
        bounds.promise(21, "nothing SAID, no SLUGS (those told of later HOURS do not come), not WET, all holds over");
        String holding = "row hard 1 holds 16 hard 1 holds 16 hard 1 holds 16;";
        due("settles(), all holds over", plant(ONE + holding + "say 1 to 0 at 0;").settles(), 3);
        due("settles(), not wet", plant("garden hours 1 law 0 odds 10;" + holding + "say 1 to 0 at 0;").settles(), 3);
        due("settles(), no slug of a later hour", plant(ONE + holding
                + "say 1 to 0 at 0;slug to 1 at 2;").settles(), 3);
        due("settles(), nothing said in a later hour", plant(ONE + holding
                + "say 1 to 0 at 0;say 2 to 2 at 2;").settles(), 3);
        due("settles(), an eaten one stays away", plant(ONE + holding
                + "say 1 to 0 at 0;slug to 1 at 1;").settles(), 1);
        bounds.promise(21, "-2: there is no GARDEN");
        due("settles()", no().settles(), -2);
    }

    private void goingRound() {
        bounds.promise(22, "How many HOURS apart those two are (1: nothing changes any more). -2 likewise");
        due("round(), at rest", plant(ALONG).round(), 1);
        due("round(), at rest later", plant(ONE + "row hard 1 hard 1 hard 1;say 1 to 0 at 1;").round(), 1);
        due("round(), by turns", plant(SWING).round(), 2);
        // 1200 .. become by turns 2 and 1 head by head: hour 1 is 2120, then 1212, then 2121, then 1212.
        CabbageViews x = plant(ONE + "row hard 1 hard 1 hard 1 hard 1;say 1 to 0 at 0;say 2 to 1 at 0;");
        story(x, "1200", "2120");
        due("settles(), by turns later", x.settles(), 3);
        due("round(), by turns later", x.round(), 2);
        due("round(), no heads", plant(BARE).round(), 1);
        due("round(), no garden", no().round(), -2);
    }

    // ---- promises 23 to 29

    private void minds() {
        bounds.promise(23, "The VIEW that more HEADS of a ROW hold in an HOUR. 0: of as many; -2: there are none such");
        CabbageViews x = plant("garden hours 1 law 2 odds 0;row hard 4 hard 4 hard 4;row hard 4 hard 4;row hard 4;"
                + "say 1 to 0 at 0;say 2 to 3 at 0;say 1 to 4 at 0;slug to 3 at 1;say 2 to 5 at 0;slug to 5 at 1;");
        due("mind(0, 0), one of three", x.mind(0, 0), 1);
        due("mind(1, 0), of as many", x.mind(1, 0), 0);
        due("mind(1, 1), the other one is eaten", x.mind(1, 1), 1);
        due("mind(2, 0)", x.mind(2, 0), 2);
        due("mind(2, 1), nobody is left", x.mind(2, 1), 0);
        bounds.only("mind(.., 1)", r -> x.mind(r, 1), 0, 2, -2);
        bounds.hoursOfHeads("mind(0, ..)", (y, t) -> y.mind(0, t), -2);
        bounds.refusedOutside("mind(.., 0) of no rows", r -> plant(BARE).mind(r, 0), 0, -1, -2);
        bounds.refusedOutside("mind(.., 0) of no garden", r -> no().mind(r, 0), 0, -1, -2);
        CabbageViews four = plant(ONE + "row hard 1;".repeat(4));
        bounds.only("mind(.., 0) of four rows", r -> four.mind(r, 0), 0, 3, -2);
        bounds.promise(24, "ROWS whose mind() is a VIEW (1 or 2) in an HOUR, as bits. -2 likewise");
        due("rows(1, 0)", x.rows(1, 0), 1);
        due("rows(2, 0)", x.rows(2, 0), 4);
        due("rows(1, 1)", x.rows(1, 1), 3);
        due("rows(2, 1)", x.rows(2, 1), 0);
        four.say(2, 3, 0);
        four.say(2, 0, 0);
        due("rows(2, 0), the fourth, too", four.rows(2, 0), 9);
        bounds.views("rows(.., 0)", (y, v) -> y.rows(v, 0), 1, -2);
        bounds.hours("rows(1, ..)", (y, t) -> y.rows(1, t), -2);
        bounds.hours("rows(2, ..)", (y, t) -> y.rows(2, t), -2);
    }

    private void splitAndMain() {
        String twelve = "garden hours 1 law 2 odds 0;" + "row hard 4 hard 4 hard 4;".repeat(4);
        CabbageViews x = plant(twelve);
        for (int h = 0; h < 12; h++) x.say(2, h, 1);
        bounds.promise(25, "How many HEADS more hold the one of 1 and 2 than the other one in an HOUR. -2: there is none"
                + " such, no GARDEN");
        due("split(0), nobody holds any", x.split(0), 0);
        due("split(1), all hold 2", x.split(1), 12);
        due("split(0), of as many", plant(SWING).split(0), 0);
        due("split(0), one holds 1", plant(ALONG).split(0), 1);
        due("split(1), one of 2 is eaten", plant(HARD + "say 2 to 0 at 0;say 2 to 1 at 0;slug to 0 at 1;").split(1), 1);
        bounds.hours("split", CabbageViews::split, -2);
        bounds.promise(26, "The VIEW (1 or 2) that more HEADS hold then. 0: of as many; -2 likewise");
        due("main(0), nobody holds any", x.main(0), 0);
        due("main(1), all hold 2", x.main(1), 2);
        due("main(0), of as many", plant(SWING).main(0), 0);
        due("main(0), one against those with none", plant(ALONG).main(0), 1);
        bounds.hours("main", CabbageViews::main, -2);
    }

    private void firstOfAll() {
        bounds.promise(27, "The first HOUR in which some HEAD holds a VIEW (1 or 2). NONE: in none");
        CabbageViews x = plant(HARD + "say 1 to 2 at 0;say 2 to 0 at 4;");
        due("first(1), in hour 0", x.first(1), 0);
        due("first(2), in the last hour", x.first(2), 4);
        due("first(2), behind the last hour", plant(HARD + "say 2 to 0 at 5;").first(2), -1);
        due("first(1), eaten as it is said", plant(HARD + "say 1 to 0 at 2;slug to 0 at 2;").first(1), -1);
        due("first(1), no heads", plant(BARE).first(1), -1);
        bounds.promise(27, "-2: there is none such, no GARDEN");
        bounds.views("first", CabbageViews::first, 1, -2);
    }

    private void solidRows() {
        bounds.promise(28, "ROWS of which all HEADS that are not eaten (there is one) hold one VIEW (1 or 2) in an HOUR");
        CabbageViews x = plant("garden hours 2 law 2 odds 0;row hard 4 hard 4;row hard 4;row hard 4 hard 4;row hard 4;"
                + "say 1 to 0 at 0;say 2 to 1 at 0;say 2 to 2 at 0;say 1 to 3 at 0;say 1 to 4 at 0;"
                + "slug to 1 at 1;slug to 2 at 1;slug to 4 at 2;");
        due("solid(0): rows 1 and 2; row 0 is of two minds, row 3 of none", x.solid(0), 6);
        due("solid(1): row 0 by a slug; of row 1 nobody is left", x.solid(1), 5);
        due("solid(2): one of row 2 is left", x.solid(2), 5);
        x.say(2, 5, 2);
        due("solid(2): the fourth row", x.solid(2), 13);
        bounds.promise(28, "-2: there is none such, no GARDEN");
        bounds.hours("solid", CabbageViews::solid, -2);
    }

    private void longestInARow() {
        bounds.promise(29, "The most HEADS one behind the other in one ROW, not eaten, that hold a VIEW (0 .. 2) in an HOUR");
        CabbageViews x = plant("garden hours 1 law 2 odds 0;row" + " hard 4".repeat(8) + ";row" + " hard 4".repeat(4) + ";");
        due("longest(0, 0), a whole row", x.longest(0, 0), 8);
        due("longest(1, 0), none", x.longest(1, 0), 0);
        for (int h = 6; h < 11; h++) x.say(2, h, 1);
        due("longest(2, 1): a row's end and the next one's beginning are not one behind the other", x.longest(2, 1), 3);
        due("longest(0, 1)", x.longest(0, 1), 6);
        x.slug(3, 1);
        due("longest(0, 1), one that is eaten stands between", x.longest(0, 1), 3);
        x.say(1, 11, 1);
        due("longest(1, 1), the last of all", x.longest(1, 1), 1);
        due("longest(0, 0), no heads", plant(BARE).longest(0, 0), 0);
        bounds.promise(29, "-2: there are none such, no GARDEN");
        bounds.views("longest(.., 0)", (y, v) -> y.longest(v, 0), 0, -2);
        bounds.hours("longest(0, ..)", (y, t) -> y.longest(0, t), -2);
        bounds.hours("longest(2, ..)", (y, t) -> y.longest(2, t), -2);
    }

    // ---- promises 30 to 36

    private void pulls() {
        bounds.promise(30, "of a HEAD that is eaten, too");
        for (int law = 0; law < 4; law++) {
            CabbageViews x = cross(law, 1, 1, new int[] {2, 2, 2, 2});
            x.slug(3, 0);
            due("pull(3, 0), law " + law, x.pull(3, 0), law == 1 ? -6 : -4);
        }
        due("pull(0, 0), no neighbours", plant(ONE + "row hard 1;say 1 to 0 at 0;").pull(0, 0), 0);
        due("pull(0, 0), its own view alone",
                plant("garden hours 1 law 3 odds 0;row hard 1;say 2 to 0 at 0;").pull(0, 0), -1);
        bounds.promise(30, "-1,000: there are none such");
        bounds.heads("pull(.., 4)", (x, h) -> x.pull(h, 4), -1000);
        bounds.hoursOfHeads("pull(1, ..)", (x, t) -> x.pull(1, t), -1000);
    }

    private void tied() {
        bounds.promise(31, "HEADS, not eaten, of whose NEIGHBOURS (as pull()) neither more hold 1 nor more 2 in an HOUR, as bits");
        CabbageViews x = plant(HARD + "say 1 to 0 at 0;say 2 to 2 at 0;slug to 1 at 1;");
        due("tied(0): head 1 between 1 and 2, heads 0 and 2 beside one with none", x.tied(0), 7);
        due("tied(1): head 1 is eaten", x.tied(1), 5);
        due("tied(0): heads 0 and 2 of a row with 1 at head 0", plant(ALONG).tied(0), 5);
        due("tied(0), no heads", plant(BARE).tied(0), 0);
        bounds.promise(31, "-2: there is none such, no GARDEN");
        bounds.hours("tied", CabbageViews::tied, -2);
    }

    private void sinceAndHeld() {
        bounds.promise(32, "The first HOUR from which on to the last one a HEAD has the VIEW (0 .. 2) that it has on the last one");
        CabbageViews x = plant(HARD + "say 1 to 0 at 0;say 2 to 1 at 4;say 2 to 0 at 2;say 1 to 0 at 3;");
        due("since(2), none from hour 0 on", x.since(2), 0);
        due("since(1), the last hour", x.since(1), 4);
        due("since(0), held ahead of it, too", x.since(0), 3);
        due("since(0), each hour another", plant(SWING).since(0), 4);
        due("since(0), from hour 0 on", plant(ALONG).since(0), 0);
        due("since(0), eaten", plant(HARD + "say 1 to 0 at 0;slug to 0 at 2;").since(0), 2);
        bounds.promise(32, "-2: there is none such");
        bounds.heads("since", CabbageViews::since, -2);
        bounds.promise(33, "The most HOURS one behind the other in which a HEAD holds one VIEW (1 or 2)");
        due("held(2), none", x.held(2), 0);
        due("held(1), the last hour", x.held(1), 1);
        due("held(0): two, one, two", x.held(0), 2);
        due("held(0), each hour another", plant(SWING).held(0), 1);
        due("held(0), all hours", plant(ALONG).held(0), 5);
        due("held(0), to the slug", plant(HARD + "say 1 to 0 at 0;slug to 0 at 2;").held(0), 2);
        CabbageViews most = plant("garden hours 16 law 0 odds 0;row hard 1;say 2 to 0 at 0;");
        due("held(0) of sixteen hours", most.held(0), 17);
        bounds.promise(33, "-2: there is none such");
        bounds.heads("held", CabbageViews::held, -2);
    }

    private void hushAndLonely() {
        bounds.promise(34, "HEADS, not eaten, that have none, nor any NEIGHBOUR one (1 or 2), in an HOUR, as bits");
        CabbageViews x = plant(HARD + "say 2 to 0 at 0;slug to 0 at 1;slug to 2 at 2;");
        due("hush(0): head 1 has a neighbour with one", x.hush(0), 4);
        due("hush(1): that one is eaten", x.hush(1), 6);
        due("hush(2): head 2 is eaten", x.hush(2), 2);
        due("hush(0), nothing said", plant(HARD).hush(0), 7);
        due("hush(2), all have one", plant(ALONG).hush(2), 0);
        due("hush(0), by law 3 as by others",
                plant("garden hours 1 law 3 odds 0;row hard 1 hard 1;say 1 to 0 at 0;").hush(0), 0);
        bounds.promise(34, "-2: there is none such, no GARDEN");
        bounds.hours("hush", CabbageViews::hush, -2);
        bounds.promise(35, "HEADS with a VIEW (1 or 2) in an HOUR that no NEIGHBOUR of theirs holds, as bits");
        due("lonely(0), beside the other view", plant(SWING).lonely(0), 3);
        due("lonely(0), beside one with none", plant(ALONG).lonely(0), 1);
        due("lonely(1), two of one view", plant(ALONG).lonely(1), 0);
        x = plant(HARD + "say 2 to 0 at 0;say 2 to 1 at 0;slug to 0 at 1;");
        due("lonely(0), two of one view", x.lonely(0), 0);
        due("lonely(1), the other one is eaten", x.lonely(1), 2);
        due("lonely(0), one alone", plant("garden hours 1 law 3 odds 0;row hard 1;say 2 to 0 at 0;").lonely(0), 1);
        bounds.promise(35, "-2: there is none such, no GARDEN");
        bounds.hours("lonely", CabbageViews::lonely, -2);
    }

    private void quarrels() {
        bounds.promise(36, "Pairs of NEIGHBOURS of which one holds 1, the other one 2, in an HOUR: how many. -2 likewise");
        due("quarrels(0), one pair", plant(SWING).quarrels(0), 1);
        due("quarrels(2), all of one mind", plant(ALONG).quarrels(2), 0);
        due("quarrels(0), four pairs", cross(0, 1, 2, new int[] {1, 1, 1, 1}).quarrels(0), 4);
        due("quarrels(0), three pairs, one with an eaten one", cross(0, 1, 2, new int[] {1, 1, 3, 1}).quarrels(0), 3);
        // Four rows of three, as a board of two colours: all 17 pairs of neighbours quarrel.
        CabbageViews x = plant("garden hours 1 law 2 odds 0;" + "row hard 4 hard 4 hard 4;".repeat(4));
        for (int h = 0; h < 12; h++) x.say(1 + h % 2, h, 0);
        due("quarrels(0), all pairs", x.quarrels(0), 17);
        due("quarrels(0), no heads", plant(BARE).quarrels(0), 0);
        bounds.hours("quarrels", CabbageViews::quarrels, -2);
    }

    // ---- promises 37, 38

    private void neverAndMost() {
        bounds.promise(37, "HEADS that hold a VIEW (1 or 2) in no HOUR, as bits");
        CabbageViews x = plant(HARD + "say 1 to 0 at 0;say 2 to 0 at 1;say 1 to 1 at 4;slug to 2 at 0;");
        due("never(1): head 2 is eaten", x.never(1), 4);
        due("never(2)", x.never(2), 6);
        due("never(1), nothing said", plant(HARD).never(1), 7);
        due("never(1), all at last", plant(ALONG).never(1), 0);
        due("never(1), no heads", plant(BARE).never(1), 0);
        bounds.promise(37, "-2: there is none such, no GARDEN");
        bounds.views("never", CabbageViews::never, 1, -2);
        bounds.promise(38, "The HOUR in which most HEADS hold it, the first of several. -2 likewise");
        due("most(1), the first of three", plant(ALONG).most(1), 2);
        due("most(2), never", plant(ALONG).most(2), 0);
        due("most(1), one in hours 0 and 4", x.most(1), 0);
        due("most(2), from hour 1 on", x.most(2), 1);
        due("most(2), in the last hour", plant(HARD + "say 2 to 0 at 1;say 2 to 1 at 4;").most(2), 4);
        due("most(1), no heads", plant(BARE).most(1), 0);
        bounds.views("most", CabbageViews::most, 1, -2);
    }
}
