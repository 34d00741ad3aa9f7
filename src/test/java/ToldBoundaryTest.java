/** Boundary cases of promises 39 to 57: what comes of telling, samples, contests, what was seen, laws, games. */
public final class ToldBoundaryTest {
    private static final String ONE = "garden hours 1 law 0 odds 0;";
    /** Whoever is told of the two, both hold it in hour 1. */
    private static final String PAIR = ONE + "row hard 1 hard 1;";
    /** Three heads that nobody sways. */
    private static final String HARD = "garden hours 4 law 0 odds 0;row hard 4 hard 4 hard 4;";
    private static final String BARE = "garden hours 3 law 0 odds 0;";
    /** Each of the twelve has three neighbours at most, and is swayed by none. */
    private static final String TWELVE = "garden hours 16 law 0 odds 0;"
            + ("row" + " hard 4".repeat(6) + ";").repeat(2);

    private final Bounds bounds = new Bounds();

    private ToldBoundaryTest() throws Exception {
    }

    public static void main(String[] args) throws Exception {
        ToldBoundaryTest test = new ToldBoundaryTest();
        test.told();
        test.fewest();
        test.leastSets();
        test.brought();
        test.loudest();
        test.firm();
        test.shares();
        test.sharesRefused();
        test.samples();
        test.sure();
        test.worth();
        test.opening();
        test.replying();
        test.slotsOfSeen();
        test.numbersOfSeen();
        test.whomItWasTold();
        test.askingAndLeaving();
        test.lawsSeen();
        test.byLaws();
        test.resting();
        test.harder();
        test.getting();
        test.bounds.finish(39, 57);
    }

    private void due(String call, long got, long want) {
        bounds.due(call, got, want);
    }

    private static CabbageViews plant(String text) {
        return Check.planted(text);
    }

    private static CabbageViews no() {
        return new CabbageViews();
    }

    private static CabbageViews lay(CabbageViews x, int slot, long... numbers) {
        x.row(slot, 3, numbers.length);
        for (int i = 0; i < numbers.length; i++) x.write(slot, i, numbers[i]);
        return x;
    }

    // ---- promises 39 to 43

    private void told() {
        bounds.term(41, "a set of HEADS is told a VIEW in HOUR 0, behind all that is SAID in it, ahead of SLUGS of it"
                + " (a HEAD that is eaten in it holds none then)");
        CabbageViews x = plant(HARD + "say 2 to 0 at 0;say 2 to 0 at 0;slug to 1 at 0;slug to 2 at 1;");
        x.say(2, 0, 0);
        due("brings(1, 1), behind what is said, by acts, too", x.brings(1, 1), 1);
        due("brings(2, 0), as it is", x.brings(2, 0), 1);
        due("brings(1, 2), eaten in hour 0", x.brings(1, 2), 0);
        due("brings(1, 4), eaten in hour 1", x.brings(1, 4), 0);
        due("brings(1, 7)", x.brings(1, 7), 1);
        x.say(2, 0, 1);
        due("brings(1, 1), ahead of what is said in hour 1", x.brings(1, 1), 0);
        CabbageViews y = plant(ONE + "row hard 1 hard 1;slug to 0 at 0;");
        due("brings(1, 1), one that is eaten in hour 0 passes nothing on", y.brings(1, 1), 0);
        CabbageViews z = plant(ONE + "row hard 1 hard 1;slug to 0 at 1;");
        due("brings(1, 1), one that is eaten in hour 1 has passed it on", z.brings(1, 1), 1);
        due("view(0, 0): nobody was told in truth", z.view(0, 0), 0);
    }

    private void fewest() {
        bounds.promise(39, "the fewest HEADS that must be TOLD a VIEW (1 or 2) so that all that are not eaten hold it on the"
                + " last HOUR. NONE: by none");
        due("fewest(1), one does", plant(PAIR).fewest(1), 1);
        due("fewest(1), all hold it as it is", plant(PAIR + "say 1 to 0 at 0;").fewest(1), 0);
        due("fewest(2), all of three", plant(HARD).fewest(2), 3);
        due("fewest(1), all of twelve", plant(TWELVE).fewest(1), 12);
        due("fewest(1), said 2 on the last hour", plant(HARD + "say 2 to 1 at 4;").fewest(1), -1);
        due("fewest(2), the same", plant(HARD + "say 2 to 1 at 4;").fewest(2), 2);
        due("fewest(1), one of three is eaten on the last hour", plant(HARD + "slug to 1 at 4;").fewest(1), 2);
        due("fewest(1), a slug behind the last hour", plant(HARD + "slug to 1 at 5;").fewest(1), 3);
        due("fewest(1), nobody is left", plant(ONE + "row hard 4;slug to 0 at 1;").fewest(1), 0);
        due("fewest(1), no heads", plant(BARE).fewest(1), 0);
        bounds.promise(39, "-2: there is none such, no GARDEN");
        bounds.views("fewest", CabbageViews::fewest, 1, -2);
    }

    private void leastSets() {
        bounds.promise(40, "The least set of so few, as bits. NONE, -2 likewise");
        due("tell(1), either of two", plant(PAIR).tell(1), 1);
        due("tell(2), none", plant(PAIR + "say 2 to 1 at 0;").tell(2), 0);
        due("tell(1), all of twelve", plant(TWELVE).tell(1), 4095);
        due("tell(2), the middle one of three", plant(ONE + "row hard 1 hard 1 hard 1;").tell(2), 2);
        due("tell(2), any of three in two hours",
                plant("garden hours 2 law 0 odds 0;row hard 1 hard 1 hard 1;").tell(2), 1);
        // Heads 4 and 7 have four neighbours, each the other one: one of the two may be left out.
        due("tell(1), all but head 7", plant(ONE + "row hard 4 hard 4 hard 4;".repeat(4)).tell(1), 4095 - 128);
        due("tell(1), by none", plant(HARD + "say 2 to 1 at 4;").tell(1), -1);
        due("tell(1), nobody is left", plant(ONE + "row hard 4;slug to 0 at 1;").tell(1), 0);
        due("tell(2), no heads", plant(BARE).tell(2), 0);
        bounds.views("tell", CabbageViews::tell, 1, -2);
        CabbageViews x = plant(PAIR);
        due("tell(1)", x.tell(1), 1);
        x.slug(0, 0);
        due("tell(1) behind an act", x.tell(1), 2);
        x.undo();
        due("tell(1), it is taken back", x.tell(1), 1);
        x.rate(1, 4);
        due("tell(1), head 1 is harder", x.tell(1), 2);
    }

    private void brought() {
        bounds.promise(41, "How many HEADS hold it on the last HOUR, if a set (bits) is TOLD it. -2: there are none such");
        CabbageViews x = plant(HARD);
        for (int set = 0; set < 8; set++) due("brings(1, " + set + ")", x.brings(1, set), Integer.bitCount(set));
        due("brings(2, 4095) of twelve", plant(TWELVE).brings(2, 4095), 12);
        bounds.only("brings(1, ..)", set -> x.brings(1, set), 0, 7, -2);
        CabbageViews twelve = plant(TWELVE);
        bounds.refusedOutside("brings(1, ..) of twelve", set -> twelve.brings(1, set), 0, 4095, -2);
        for (int bit = 3; bit < 32; bit++) due("brings(1, 1 << " + bit + ")", x.brings(1, 1 << bit | 1), -2);
        bounds.only("brings(1, ..) of no heads", set -> plant(BARE).brings(1, set), 0, 0, -2);
        bounds.views("brings(.., 1)", (y, v) -> y.brings(v, 1), 1, -2);
        bounds.refusedOutside("brings(1, ..) of no garden", set -> no().brings(1, set), 0, -1, -2);
    }

    private void loudest() {
        bounds.promise(42, "The HEAD that, TOLD alone, brings most, the first of several. NONE: there are none; -2: there is"
                + " none such, no GARDEN");
        due("loud(1), both as much", plant(PAIR).loud(1), 0);
        due("loud(1), the middle one", plant(ONE + "row hard 1 hard 1 hard 1;").loud(1), 1);
        due("loud(2), the last one alone is not eaten", plant(HARD + "slug to 0 at 0;slug to 1 at 4;").loud(2), 2);
        due("loud(1), they bring nothing", plant(HARD + "slug to 0 at 0;slug to 1 at 0;slug to 2 at 0;").loud(1), 0);
        due("loud(1), no heads", plant(BARE).loud(1), -1);
        bounds.views("loud", CabbageViews::loud, 1, -2);
    }

    private void firm() {
        bounds.promise(43, "HEADS each of which does not hold a VIEW on the last HOUR, if all but that one are TOLD it, as bits"
                + " (eaten ones, too). -2 likewise");
        due("firm(1), all", plant(HARD).firm(1), 7);
        due("firm(1), none", plant(PAIR).firm(1), 0);
        due("firm(2), an eaten one", plant(PAIR + "slug to 1 at 1;").firm(2), 2);
        due("firm(2), one eaten in hour 0 and the one beside it", plant(PAIR + "slug to 1 at 0;").firm(2), 3);
        due("firm(1), one alone", plant(ONE + "row hard 1;").firm(1), 1);
        due("firm(1), one alone that is said it", plant(ONE + "row hard 1;say 1 to 0 at 1;").firm(1), 0);
        due("firm(2), all twelve", plant(TWELVE).firm(2), 4095);
        due("firm(1), no heads", plant(BARE).firm(1), 0);
        bounds.views("firm", CabbageViews::firm, 1, -2);
    }

    // ---- promise 44

    private void share(CabbageViews x, int head, int view, long above, long below) {
        due("share(" + head + ", " + view + ", 0)", x.share(head, view, 0), above);
        due("share(" + head + ", " + view + ", 1)", x.share(head, view, 1), below);
    }

    private void shares() {
        bounds.promise(44, "SHARE (VI) of a HEAD for a VIEW, above (what 0), below (1)");
        share(plant(PAIR), 0, 1, 1, 1);
        // Told alone the heads bring 2, 3, 2, any two of them 3: 5/6, 4/3, 5/6.
        CabbageViews three = plant(ONE + "row hard 1 hard 1 hard 1;");
        share(three, 0, 1, 5, 6);
        share(three, 1, 2, 4, 3);
        share(three, 2, 1, 5, 6);
        share(plant(ONE + "row hard 4;"), 0, 2, 1, 1);
        bounds.term(44, "HEADS come in an order, each has what the set brings more by it (below 0, too), each order is as likely:"
                + " the mean");
        // Nobody sways head 0 (hard 2). It brings both if it comes first, itself if second; head 1 itself, or nothing.
        CabbageViews two = plant("garden hours 2 law 0 odds 0;row hard 2 hard 1;");
        share(two, 0, 1, 3, 2);
        share(two, 1, 1, 1, 2);
        bounds.term(44, "(what is held with none TOLD is nobody's)");
        share(plant(PAIR + "say 1 to 0 at 0;"), 0, 1, 0, 1);
        share(plant(PAIR + "say 1 to 0 at 0;"), 1, 1, 0, 1);
        bounds.term(44, "FRACTIONS are told in lowest terms (0 / 1)");
        share(plant(ONE + "row hard 4;slug to 0 at 0;"), 0, 1, 0, 1);
        CabbageViews eight = plant(ONE + "row" + " hard 4".repeat(8) + ";");
        share(eight, 0, 1, 1, 1);
        share(eight, 7, 2, 1, 1);
        // Of eight along a row in one hour, head 0 brings 2 first of all, 1 where head 1 and 2 are not told, ..
        long sum = 0;
        CabbageViews row = plant(ONE + "row" + " hard 1".repeat(8) + ";");
        for (int h = 0; h < 8; h++) {
            due("share(" + h + ", 1, 1) divides 8!", 40320 % row.share(h, 1, 1), 0);
            sum += row.share(h, 1, 0) * (40320 / row.share(h, 1, 1));
        }
        due("all shares are what all bring", sum, 8 * 40320);
    }

    private void sharesRefused() {
        bounds.promise(44, "-2: there are none such; -3: there are more than 8 HEADS");
        CabbageViews eight = plant(ONE + "row" + " hard 4".repeat(8) + ";");
        bounds.only("share(.., 1, 0) of eight", h -> eight.share(h, 1, 0), 0, 7, -2);
        bounds.only("share(0, .., 0) of eight", v -> eight.share(0, v, 0), 1, 2, -2);
        bounds.only("share(0, 1, ..) of eight", what -> eight.share(0, 1, what), 0, 1, -2);
        CabbageViews nine = plant(ONE + "row" + " hard 4".repeat(8) + ";row hard 4;");
        for (int h = 0; h < 9; h++) due("share(" + h + ", 1, 0) of nine", nine.share(h, 1, 0), -3);
        due("share(0, 2, 1) of nine", nine.share(0, 2, 1), -3);
        due("share(11, 2, 1) of twelve", plant(TWELVE).share(11, 2, 1), -3);
        bounds.refusedOutside("share(.., 1, 0) of nine", h -> nine.share(h, 1, 0), 0, 8, -2);
        bounds.refusedOutside("share(0, .., 0) of nine", v -> nine.share(0, v, 0), 1, 2, -2);
        bounds.refusedOutside("share(0, 1, ..) of nine", what -> nine.share(0, 1, what), 0, 1, -2);
        nine.slug(8, 0);
        due("share(0, 1, 0) of nine, one eaten", nine.share(0, 1, 0), -3);
        CabbageViews pair = plant(PAIR);
        due("share(0, 1, 0) of two", pair.share(0, 1, 0), 1);
        pair.slug(0, 0);
        due("share(0, 1, 0) behind an act", pair.share(0, 1, 0), 0);
        due("share(1, 1, 0) behind an act", pair.share(1, 1, 0), 1);
        pair.undo();
        due("share(0, 1, 0), it is taken back", pair.share(0, 1, 0), 1);
        due("share(0, 1, 0) of no heads", plant(BARE).share(0, 1, 0), -2);
        due("share(0, 1, 0) of no garden", no().share(0, 1, 0), -2);
    }

    // ---- promises 45, 46

    private void sample(CabbageViews x, int hour, int n, long above, long below) {
        due("sample(" + hour + ", " + n + ", 0)", x.sample(hour, n, 0), above);
        due("sample(" + hour + ", " + n + ", 1)", x.sample(hour, n, 1), below);
    }

    private void samples() {
        bounds.term(45, "it is for 1, if more of it hold 1 than 2");
        sample(plant(ONE + "row hard 4 hard 4;say 1 to 0 at 0;say 2 to 1 at 0;"), 0, 2, 0, 1);
        sample(plant(ONE + "row hard 4 hard 4;say 1 to 0 at 0;"), 0, 2, 1, 1);
        sample(plant(ONE + "row hard 4 hard 4;"), 0, 2, 0, 1);
        sample(plant(ONE + "row hard 4 hard 4;say 2 to 0 at 0;"), 0, 1, 0, 1);
        bounds.promise(45, "SAMPLE (VII) of n (1 .. as many as are not eaten) in an HOUR: the chance that it is for 1, above, below");
        CabbageViews x = plant(HARD + "say 1 to 0 at 0;say 2 to 1 at 1;slug to 2 at 2;slug to 1 at 3;slug to 0 at 4;");
        sample(x, 0, 1, 1, 3);
        sample(x, 0, 2, 2, 3);
        sample(x, 0, 3, 1, 1);
        sample(x, 1, 1, 1, 3);
        sample(x, 1, 2, 1, 3);
        sample(x, 1, 3, 0, 1);
        sample(x, 2, 1, 1, 2);
        sample(x, 2, 2, 0, 1);
        sample(x, 3, 1, 1, 1);
        // Two hold 1, one holds 2, one none.
        CabbageViews four = plant("garden hours 1 law 2 odds 0;row hard 4 hard 4 hard 4 hard 4;say 1 to 0 at 0;"
                + "say 1 to 1 at 0;say 2 to 2 at 0;");
        sample(four, 0, 1, 1, 2);
        sample(four, 0, 2, 1, 2);
        sample(four, 0, 3, 1, 2);
        sample(four, 0, 4, 1, 1);
        // Six hold 1, four hold 2, two none: of the 220 samples of three 20 + 15 * 6 + 6 are for 1.
        CabbageViews many = plant(TWELVE);
        for (int h = 0; h < 10; h++) many.say(h < 6 ? 1 : 2, h, 0);
        sample(many, 0, 1, 1, 2);
        sample(many, 0, 3, 29, 55);
        sample(many, 0, 12, 1, 1);
        bounds.promise(45, "-2: there are none such");
        for (int t = 0; t <= 4; t++) {
            int hour = t;
            int alive = t < 2 ? 3 : 4 - t;
            bounds.only("sample(" + t + ", .., 0)", n -> x.sample(hour, n, 0), 1, alive, -2);
            bounds.only("sample(" + t + ", .., 1)", n -> x.sample(hour, n, 1), 1, alive, -2);
        }
        bounds.only("sample(0, 1, ..)", what -> x.sample(0, 1, what), 0, 1, -2);
        bounds.hoursOfHeads("sample(.., 1, 0)", (y, t) -> y.sample(t, 1, 0), -2);
        CabbageViews twelve = plant(TWELVE);
        bounds.only("sample(16, .., 1) of twelve", n -> twelve.sample(16, n, 1), 1, 12, -2);
        twelve.say(1, 11, 0);
        sample(twelve, 0, 11, 11, 12);
        sample(twelve, 0, 12, 1, 1);
        due("sample(0, 1, 0) of no heads", plant(BARE).sample(0, 1, 0), -2);
        due("sample(0, 0, 0) of no heads", plant(BARE).sample(0, 0, 0), -2);
    }

    private void sure() {
        bounds.promise(46, "The least n by which that chance is half or more. NONE: by none");
        String four = "garden hours 1 law 2 odds 0;row hard 4 hard 4 hard 4 hard 4;";
        due("sure(0), half of all", plant(four + "say 1 to 0 at 0;say 1 to 3 at 0;").sure(0), 1);
        due("sure(0), one of four: half by two", plant(four + "say 1 to 0 at 0;").sure(0), 2);
        due("sure(0), two of 1 against one of 2: half by one",
                plant(four + "say 1 to 0 at 0;say 1 to 1 at 0;say 2 to 2 at 0;").sure(0), 1);
        due("sure(0), as many of 2: never half", plant(four + "say 1 to 0 at 0;say 2 to 1 at 0;").sure(0), -1);
        due("sure(0), one of twelve: half by six", plant(TWELVE + "say 1 to 5 at 0;").sure(0), 6);
        due("sure(0), one alone", plant("garden hours 1 law 2 odds 0;row hard 4;say 1 to 0 at 0;").sure(0), 1);
        due("sure(0), all hold 2", plant("garden hours 1 law 2 odds 0;row hard 4;say 2 to 0 at 0;").sure(0), -1);
        due("sure(0), nothing said", plant(four).sure(0), -1);
        due("sure(1), nobody is left",
                plant("garden hours 1 law 2 odds 0;row hard 4;say 1 to 0 at 0;slug to 0 at 1;").sure(1), -1);
        // Eleven with none, two of them eaten: one of ten is half by five.
        due("sure(16), one of ten", plant(TWELVE + "say 1 to 5 at 0;slug to 0 at 0;slug to 11 at 15;").sure(16), 5);
        due("sure(0), no heads", plant(BARE).sure(0), -1);
        bounds.promise(46, "-2: there is no such HOUR, no GARDEN");
        bounds.hours("sure", CabbageViews::sure, -2);
    }

    // ---- promises 47 to 49

    private void worth() {
        bounds.term(47, "It is worth the HEADS that hold 1 on the last HOUR less those that hold 2; each as well as can be");
        due("worth(), what is said in truth counts, too", plant(ONE + "row hard 4;row hard 4;row hard 4;"
                + "say 1 to 1 at 1;say 1 to 2 at 1;").worth(), 1);
        bounds.term(47, "(the same one, too: it holds 2 then)");
        due("worth(), one head", plant(ONE + "row hard 4;").worth(), -1);
        due("worth(), two heads that nobody sways", plant(ONE + "row hard 4 hard 4;").worth(), -1);
        bounds.term(47, "one that is eaten in HOUR 0 may be told, too");
        due("worth(), the only one is eaten", plant(ONE + "row hard 4;slug to 0 at 0;").worth(), 0);
        due("worth(), the other one has 2 whoever is told",
                plant(ONE + "row hard 4 hard 4;slug to 0 at 0;").worth(), -1);
        bounds.promise(47, "-1,000: there are no HEADS, no GARDEN");
        due("worth(), no heads", plant(BARE).worth(), -1000);
        due("worth(), no garden", no().worth(), -1000);
        // On the last hour all are said 1: nothing that is told lasts.
        due("worth(), all are said 1 at last",
                plant(HARD + "say 1 to 0 at 4;say 1 to 1 at 4;say 1 to 2 at 4;").worth(), 3);
        due("worth(), all are said 2 at last",
                plant(HARD + "say 2 to 0 at 4;say 2 to 1 at 4;say 2 to 2 at 4;").worth(), -3);
        for (int view = 1; view <= 2; view++) {
            CabbageViews twelve = plant(TWELVE);
            for (int h = 0; h < 12; h++) twelve.say(view, h, 16);
            due("worth(), all twelve are said " + view + " at last", twelve.worth(), view == 1 ? 12 : -12);
            due("opens(), all twelve are said " + view + " at last", twelve.opens(), 0);
        }
        CabbageViews x = plant(ONE + "row hard 4;");
        due("worth()", x.worth(), -1);
        x.say(1, 0, 1);
        due("worth() behind an act", x.worth(), 1);
        Check.put(x, BARE);
        x.garden();
        due("worth() of another garden without heads", x.worth(), -1000);
    }

    private void opening() {
        bounds.promise(48, "The HEAD whom the SECRETARY tells. NONE: there are none; -2: there is no GARDEN");
        due("opens(), no heads", plant(BARE).opens(), -1);
        due("opens(), no garden", no().opens(), -2);
        bounds.term(48, "each as well as can be, the first HEAD of several");
        due("opens(), all as good", plant(HARD).opens(), 0);
        due("opens(), one head, eaten", plant(ONE + "row hard 4;slug to 0 at 0;").opens(), 0);
        // Head 0 stands between 1 and 2 and is said 1 at last. Told 1 and then 2, it has won both for 2: worth -1. Head 1,
        // told 1 and then 2, is alone with 2 against head 0: worth 0, and every other reply is worth 1.
        CabbageViews x = plant("garden hours 1 law 2 odds 0;row hard 1 hard 1;row hard 1;say 1 to 0 at 1;");
        due("opens(), not head 0; head 1 ahead of head 2", x.opens(), 1);
        due("worth()", x.worth(), 0);
        due("replies(0)", x.replies(0), 0);
        due("replies(1)", x.replies(1), 1);
    }

    private void replying() {
        bounds.promise(49, "The HEAD whom the OPPOSITION tells behind a HEAD told by the SECRETARY. -2: there is none such");
        CabbageViews x = plant(HARD);
        for (int h = 0; h < 3; h++) due("replies(" + h + "), the same one: 2 alone is left", x.replies(h), h);
        CabbageViews eaten = plant(ONE + "row hard 4 hard 4;slug to 0 at 0;slug to 1 at 0;");
        due("replies(1), all as good: the first one", eaten.replies(1), 0);
        bounds.heads("replies", CabbageViews::replies, -2);
    }

    // ---- promises 50 to 53

    private void slotsOfSeen() {
        CabbageViews x = lay(lay(lay(lay(plant(HARD), 0), 1), 2), 3);
        CabbageViews empty = plant(HARD);
        CabbageViews none = lay(no(), 0);
        bounds.promise(50, "-2: there is no such SLOT, VIEW, no GARDEN, a number is none such (0 .. 2; asked last), not three"
                + " each; -6: it has nothing");
        bounds.only("whom(.., 1)", s -> x.whom(s, 1), 0, 3, -2);
        bounds.only("whom(0, ..)", v -> x.whom(0, v), 1, 2, -2);
        bounds.refusedOutside("whom(.., 1), nothing in any", s -> empty.whom(s, 1), 0, 3, -2);
        bounds.refusedOutside("whom(0, ..), nothing in it", v -> empty.whom(0, v), 1, 2, -2);
        for (int s = 0; s < 4; s++) due("whom(" + s + ", 2), nothing in it", empty.whom(s, 2), -6);
        due("whom(0, 1), no garden", none.whom(0, 1), -2);
        due("whom(1, 1), no garden and nothing in it", none.whom(1, 1), -2);
        bounds.promise(51, "NONE: none; -2, -6 likewise");
        bounds.only("ask(.., 1)", s -> x.ask(s, 1), 0, 3, -2);
        bounds.only("ask(0, ..)", v -> x.ask(0, v), 1, 2, -2);
        bounds.refusedOutside("ask(0, ..), nothing in it", v -> empty.ask(0, v), 1, 2, -2);
        for (int s = 0; s < 4; s++) due("ask(" + s + ", 2), nothing in it", empty.ask(s, 2), -6);
        due("ask(0, 1), no garden", none.ask(0, 1), -2);
        due("ask(1, 1), no garden and nothing in it", none.ask(1, 1), -2);
        bounds.promise(52, "-2, -6 likewise");
        bounds.only("leaves(.., 1)", s -> x.leaves(s, 1), 0, 3, -2);
        bounds.only("leaves(0, ..)", v -> x.leaves(0, v), 1, 2, -2);
        bounds.refusedOutside("leaves(0, ..), nothing in it", v -> empty.leaves(0, v), 1, 2, -2);
        for (int s = 0; s < 4; s++) due("leaves(" + s + ", 2), nothing in it", empty.leaves(s, 2), -6);
        due("leaves(0, 1), no garden", none.leaves(0, 1), -2);
        due("leaves(1, 1), no garden and nothing in it", none.leaves(1, 1), -2);
        bounds.promise(53, "-2 (VIEW aside), -6 likewise");
        bounds.only("laws", x::laws, 0, 3, -2);
        for (int s = 0; s < 4; s++) due("laws(" + s + "), nothing in it", empty.laws(s), -6);
        bounds.refusedOutside("laws, nothing in any", empty::laws, 0, 3, -2);
        due("laws(0), no garden", none.laws(0), -2);
        due("laws(1), no garden and nothing in it", none.laws(1), -2);
    }

    /** All four calls refuse a row, or none does. */
    private void rowIs(boolean refused, String text, long... numbers) {
        CabbageViews x = lay(plant(text), 2, numbers);
        String told = " of " + java.util.Arrays.toString(numbers);
        bounds.promise(50, "a number is none such (0 .. 2; asked last), not three each");
        due("whom(2, 1)" + told, x.whom(2, 1) == -2 ? 1 : 0, refused ? 1 : 0);
        bounds.promise(51, "-2, -6 likewise");
        due("ask(2, 2)" + told, x.ask(2, 2) == -2 ? 1 : 0, refused ? 1 : 0);
        bounds.promise(52, "-2, -6 likewise");
        due("leaves(2, 1)" + told, x.leaves(2, 1) == -2 ? 1 : 0, refused ? 1 : 0);
        bounds.promise(53, "-2 (VIEW aside), -6 likewise");
        due("laws(2)" + told, x.laws(2) == -2 ? 1 : 0, refused ? 1 : 0);
    }

    private void numbersOfSeen() {
        long[] strange = {-1, -256, 1L << 31, 1L << 32, 1L << 33, (1L << 32) + 1, Long.MIN_VALUE, Long.MAX_VALUE, 100};
        for (int place = 0; place < 3; place++) {
            for (int i = -1; i <= 18; i++) {
                long[] row = {0, 0, 0, 2, 4, 2};
                row[place] = i;
                int most = place == 0 ? 2 : place == 1 ? 4 : 2;
                rowIs(i < 0 || i > most, HARD, row);
            }
            for (long number : strange) {
                long[] row = {2, 4, 2, 0, 0, 0};
                row[3 + place] = number;
                rowIs(true, HARD, row);
            }
        }
        rowIs(false, TWELVE, 11, 16, 2);
        rowIs(true, TWELVE, 12, 16, 2);
        rowIs(true, TWELVE, 11, 17, 2);
        rowIs(true, TWELVE, 11, 16, 3);
        for (int n = 0; n <= 60; n++) rowIs(n % 3 != 0, HARD, new long[n]);
        long[] last = new long[60];
        last[59] = 3;
        rowIs(true, HARD, last);
        rowIs(false, BARE);
        rowIs(true, BARE, 0, 0, 0);
        rowIs(true, HARD, 0, 0, 3, 1);
    }

    private void whomItWasTold() {
        bounds.promise(50, "SEEN: HEADS to whom a VIEW (1 or 2) can have been TOLD besides (one HEAD alone) by a SLOT's row");
        CabbageViews x = plant(HARD + "slug to 2 at 4;");
        due("whom(0, 1), nothing seen", lay(x, 0).whom(0, 1), 7);
        due("whom(0, 1), head 0 holds 1", lay(x, 0, 0, 0, 1).whom(0, 1), 1);
        due("whom(0, 2), head 0 holds 1", lay(x, 0, 0, 0, 1).whom(0, 2), 0);
        due("whom(0, 1), head 0 holds none", lay(x, 0, 0, 4, 0).whom(0, 1), 6);
        due("whom(0, 1), an eaten one has 0", lay(x, 0, 2, 4, 0).whom(0, 1), 7);
        due("whom(0, 1), heads 0 and 1 hold 1: no one alone", lay(x, 0, 0, 0, 1, 1, 0, 1).whom(0, 1), 0);
        due("whom(0, 1), the same twice", lay(x, 0, 1, 0, 1, 1, 0, 1).whom(0, 1), 2);
        due("whom(0, 1), one thing and another of it", lay(x, 0, 1, 0, 1, 1, 0, 0).whom(0, 1), 0);
        long[] full = new long[60];
        for (int i = 0; i < 60; i += 3) {
            full[i] = 1;
            full[i + 1] = i % 5;
            full[i + 2] = 2;
        }
        due("whom(3, 2), a full row", lay(x, 3, full).whom(3, 2), 2);
        full[59] = 1;
        due("whom(3, 2), its last number counts", lay(x, 3, full).whom(3, 2), 0);
        due("whom(0, 1), all of twelve", lay(plant(TWELVE), 0).whom(0, 1), 4095);
        due("whom(0, 1), no heads", lay(plant(BARE), 0).whom(0, 1), 0);
    }

    private void askingAndLeaving() {
        bounds.promise(51, "The HEAD and the HOUR (100 times and) whose VIEW to know leaves fewest of these at worst, if fewer"
                + " than now, the first of several");
        CabbageViews x = plant(HARD);
        due("ask(0, 1) of three", lay(x, 0).ask(0, 1), 0);
        due("ask(0, 1) of heads 1 and 2", lay(x, 0, 0, 0, 0).ask(0, 1), 100);
        due("ask(0, 1) of one", lay(x, 0, 2, 0, 1).ask(0, 1), -1);
        due("ask(0, 1) of none", lay(x, 0, 2, 0, 2).ask(0, 1), -1);
        due("ask(0, 2), both bring the same",
                lay(plant(ONE + "row hard 4 hard 4;slug to 0 at 0;slug to 1 at 0;"), 0).ask(0, 2), -1);
        due("ask(0, 1), no heads", lay(plant(BARE), 0).ask(0, 1), -1);
        // Only head 11, and only in hour 16, tells the two ahead of it and above it from the others.
        CabbageViews last = plant("garden hours 16 law 0 odds 0;row" + " hard 4".repeat(6) + ";row" + " hard 4".repeat(5)
                + " hard 1 holds 15;");
        due("ask(0, 1), the last head in the last hour", lay(last, 0).ask(0, 1), 1116);
        due("ask(0, 2) of three", lay(x, 0).ask(0, 2), 0);
        due("ask(0, 2) of heads 1 and 2", lay(x, 0, 0, 0, 0).ask(0, 2), 100);
        // Head 1 in hour 1 holds 2 if head 0 was told, none if head 2 was, 1 if head 1 or 3 was: two are left at worst.
        CabbageViews parted = plant(ONE + "row hard 4 hard 1 hard 4 hard 4;say 1 to 0 at 0;");
        due("ask(0, 2), three answers", lay(parted, 0).ask(0, 2), 101);
        bounds.promise(52, "How many it leaves at worst (as now without)");
        due("leaves(0, 2), three answers", lay(parted, 0).leaves(0, 2), 2);
        due("leaves(0, 2) of three", lay(x, 0).leaves(0, 2), 2);
        due("leaves(0, 1) of three", lay(x, 0).leaves(0, 1), 2);
        due("leaves(0, 1) of two", lay(x, 0, 0, 0, 0).leaves(0, 1), 1);
        due("leaves(0, 1) of one", lay(x, 0, 2, 0, 1).leaves(0, 1), 1);
        due("leaves(0, 1) of none", lay(x, 0, 2, 0, 2).leaves(0, 1), 0);
        due("leaves(0, 2), both bring the same",
                lay(plant(ONE + "row hard 4 hard 4;slug to 0 at 0;slug to 1 at 0;"), 0).leaves(0, 2), 2);
        due("leaves(0, 1), twelve less three", lay(last, 0).leaves(0, 1), 9);
        due("leaves(0, 1), no heads", lay(plant(BARE), 0).leaves(0, 1), 0);
    }

    private void lawsSeen() {
        bounds.promise(53, "LAWS (0 .. 3) by which it is as such a row tells (nothing TOLD besides), as bits");
        CabbageViews x = plant("garden hours 1 law 3 odds 0;row hard 2 hard 1;say 1 to 1 at 0;");
        due("laws(0), nothing seen", lay(x, 0).laws(0), 15);
        due("laws(0), head 0 (hard 2) holds 1: its neighbour counts twice", lay(x, 0, 0, 1, 1).laws(0), 2);
        due("laws(0), it does not", lay(x, 0, 0, 1, 0).laws(0), 13);
        due("laws(0), by none", lay(x, 0, 0, 1, 2).laws(0), 0);
        due("laws(0), hour 0 is as it is by all", lay(x, 0, 1, 0, 1, 0, 0, 0).laws(0), 15);
        due("laws(0), no heads", lay(plant(BARE), 0).laws(0), 15);
        due("count(1), the law stays", x.count(1), 3);
    }

    // ---- promises 54, 55

    private void byLaws() {
        bounds.promise(54, "HEADS that hold 1 on the last HOUR by a LAW in place of the one told, as bits. -2: there is none such"
                + " (0 .. 3), no GARDEN");
        CabbageViews x = plant("garden hours 1 law 3 odds 0;row hard 2 hard 1;say 1 to 1 at 0;");
        int[] by = {2, 3, 2, 2};
        for (int law = 0; law < 4; law++) due("by(" + law + ")", x.by(law), by[law]);
        due("view(0, 1), as told", x.view(0, 1), 0);
        bounds.only("by", x::by, 0, 3, -2);
        bounds.only("by, no heads", plant(BARE)::by, 0, 3, -2);
        bounds.refusedOutside("by, no garden", no()::by, 0, -1, -2);
        bounds.promise(55, "The LAW by which most do, the least of several. -2: there is no GARDEN");
        due("law(), one more than by others", x.law(), 1);
        due("law(), by all as many", plant(HARD + "say 1 to 0 at 0;").law(), 0);
        due("law(), by all nobody", plant(HARD + "say 2 to 0 at 0;").law(), 0);
        due("law(), no heads", plant(BARE).law(), 0);
        due("law(), no garden", no().law(), -2);
        // Head 1 holds 1 between two of 2, and keeps it by law 2 alone: by law 3 it is two against one.
        due("law(), the third", plant(ONE + "row hard 4 hard 1 hard 4;"
                + "say 2 to 0 at 0;say 1 to 1 at 0;say 2 to 2 at 0;").law(), 2);
        // Head 1 holds 1 beside one of 2, and keeps it by laws 2 and 3.
        due("law(), the least of two", plant(ONE + "row hard 4 hard 1;"
                + "say 2 to 0 at 0;say 1 to 1 at 0;").law(), 2);
        // 12.121, heads 0 and 4 of hard 1: head 0 keeps 1 by laws 2 and 3, head 4 takes 1 by all but law 2.
        due("law(), the fourth", plant(ONE + "row hard 1 hard 4 hard 4 hard 4 hard 1 hard 4;"
                + "say 1 to 0 at 0;say 2 to 1 at 0;say 1 to 3 at 0;say 2 to 4 at 0;say 1 to 5 at 0;").law(), 3);
    }

    // ---- promises 56, 57

    private void resting() {
        bounds.promise(56, "-2: there are none such, one twice");
        CabbageViews x = plant(HARD);
        bounds.refusedOutside("rests(.., 0)", h -> x.rests(h, 0), 0, 2, -2);
        bounds.refusedOutside("rests(0, ..)", h -> x.rests(0, h), 0, 2, -2);
        for (int h = 0; h < 3; h++) {
            for (int g = 0; g < 3; g++) {
                due("rests(" + h + ", " + g + ")", x.rests(h, g), h == g ? -2 : 1);
            }
        }
        due("rests(0, 1) of one head", plant(ONE + "row hard 1;").rests(0, 1), -2);
        due("rests(11, 0) of twelve", plant(TWELVE).rests(11, 0), 1);
        due("rests(0, 1), no heads", plant(BARE).rests(0, 1), -2);
        due("rests(0, 1), no garden", no().rests(0, 1), -2);
        bounds.promise(56, "pairs of choices of two HEADS at REST, as bits: 1 neither is, 2 the first one is, 4 the other one, 8 both");
        rest(1, "garden hours 1 law 3 odds 0;row hard 2 hard 1;");
        // As they are, both change each hour and get 0. One that alone is harder keeps its view.
        String pair = "row hard 1 hard 1;say 1 to 0 at 0;say 2 to 1 at 0;";
        rest(1, ONE + pair);
        rest(6, "garden hours 2 law 0 odds 0;" + pair);
        // Head 0 gets 2, or 3 if it is harder; head 1 gets 0 or 2, and nothing by being harder.
        rest(2, "garden hours 3 law 1 odds 0;row hard 2 hard 1;say 1 to 1 at 1;say 2 to 0 at 0;");
        rest(4, "garden hours 3 law 1 odds 0;row hard 1 hard 2;say 1 to 1 at 0;say 2 to 1 at 1;");
        // Head 0 gets 2, or 7 if it is harder; then head 1 gets 0, or 3 if it is harder.
        rest(8, "garden hours 5 law 1 odds 0;row hard 2 hard 1 hard 1;row hard 2 hard 1;say 2 to 0 at 0;say 1 to 1 at 1;");
        rest(0, "garden hours 5 law 1 odds 0;row hard 1 hard 1 hard 1;row hard 2 hard 1;say 1 to 1 at 1;say 2 to 3 at 0;");
        rest(9, "garden hours 4 law 1 odds 0;row hard 1 hard 1;row hard 1 hard 1;say 1 to 2 at 0;say 2 to 3 at 0;say 1 to 0 at 1;");
    }

    /** Heads 0 and 1 are at rest by so many pairs of choices, and by what each of them gets. */
    private void rest(int pairs, String text) {
        CabbageViews x = plant(text);
        int found = 0;
        for (int choice = 0; choice < 4; choice++) {
            int a = choice & 1;
            int b = choice >> 1;
            boolean first = x.gets(0, 1, a, b) >= x.gets(0, 1, 1 - a, b);
            boolean other = x.gets(1, 0, b, a) >= x.gets(1, 0, 1 - b, a);
            found |= first && other ? 1 << choice : 0;
        }
        due("rests(0, 1) of <" + text + ">", x.rests(0, 1), pairs);
        due("by gets() of <" + text + ">", found, pairs);
        int turned = (pairs & 2) << 1 | (pairs & 4) >> 1 | pairs & 9;
        due("rests(1, 0) of <" + text + ">", x.rests(1, 0), turned);
    }

    private void harder() {
        bounds.term(57, "Each of two HEADS is 1 harder, or not (all else as now)");
        // Head 3 holds 2 amid four of 1: it is hard 4 and takes 1, but does not if it is 1 harder.
        String cross = "row hard 4 hard 4;row hard 4 hard 4 hard 4;row hard 4 hard 4;say 2 to 3 at 0;"
                + "say 1 to 1 at 0;say 1 to 2 at 0;say 1 to 4 at 0;say 1 to 6 at 0;";
        CabbageViews x = plant("garden hours 3 law 0 odds 0;" + cross);
        due("gets(3, 0, 0, 0), hard 4", x.gets(3, 0, 0, 0), 4);
        due("gets(3, 0, 1, 0), hard 5", x.gets(3, 0, 1, 0), 3);
        due("head(3, 0), not in truth", x.head(3, 0), 4);
        due("view(3, 1), not in truth", x.view(3, 1), 1);
        bounds.term(57, "It GETS 2 for each HOUR from 1 on (the last one, too) in which it holds the VIEW that it held in the HOUR"
                + " ahead (1 or 2), less 3, if it is");
        CabbageViews y = plant(ONE + "row hard 4 hard 4;say 1 to 0 at 0;");
        due("gets(0, 1, 0, 0), the last hour", y.gets(0, 1, 0, 0), 2);
        due("gets(0, 1, 1, 0), less 3", y.gets(0, 1, 1, 0), -1);
        due("gets(1, 0, 0, 0), none is no view", y.gets(1, 0, 0, 0), 0);
        bounds.term(56, "REST: neither GETS more by the other choice alone");
        due("rests(3, 0): 4 is more than 3", x.rests(3, 0), 1);
        // In five hours it gets 2 an hour from hour 2 on, or in all five less 3.
        due("rests(3, 0) in five hours: 8 is more than 7", plant("garden hours 5 law 0 odds 0;" + cross).rests(3, 0), 1);
    }

    private void getting() {
        bounds.promise(57, "What the first of two GETS by the choices (1 it is harder, 0 not; below 0, too)");
        CabbageViews x = plant(HARD + "say 1 to 0 at 0;say 2 to 1 at 4;say 1 to 2 at 1;slug to 2 at 4;");
        due("gets(0, 1, 0, 0), each hour from 1 on", x.gets(0, 1, 0, 0), 8);
        due("gets(0, 1, 1, 0), less 3", x.gets(0, 1, 1, 0), 5);
        due("gets(0, 1, 0, 1), the other one is harder", x.gets(0, 1, 0, 1), 8);
        due("gets(1, 0, 0, 0), held in the last hour alone", x.gets(1, 0, 0, 0), 0);
        due("gets(1, 0, 1, 1), below 0", x.gets(1, 0, 1, 1), -3);
        due("gets(2, 0, 0, 0), in hours 2 and 3", x.gets(2, 0, 0, 0), 4);
        CabbageViews most = plant("garden hours 16 law 0 odds 0;row hard 4 hard 4;say 1 to 0 at 0;");
        due("gets(0, 1, 0, 0), sixteen hours", most.gets(0, 1, 0, 0), 32);
        due("gets(1, 0, 0, 0), none is not held", most.gets(1, 0, 0, 0), 0);
        bounds.promise(57, "-1,000: there are none such, one twice");
        bounds.refusedOutside("gets(.., 0, 0, 0)", h -> x.gets(h, 0, 0, 0), 0, 2, -1000);
        bounds.refusedOutside("gets(0, .., 0, 0)", h -> x.gets(0, h, 0, 0), 0, 2, -1000);
        bounds.only("gets(0, 1, .., 0)", c -> x.gets(0, 1, c, 0), 0, 1, -1000);
        bounds.only("gets(0, 1, 0, ..)", c -> x.gets(0, 1, 0, c), 0, 1, -1000);
        for (int h = 0; h < 3; h++) due("gets(" + h + ", " + h + ", 0, 0)", x.gets(h, h, 0, 0), -1000);
        due("gets(0, 1, 0, 0) of one head", plant(ONE + "row hard 1;").gets(0, 1, 0, 0), -1000);
        due("gets(0, 1, 0, 0), no heads", plant(BARE).gets(0, 1, 0, 0), -1000);
        due("gets(0, 1, 0, 0), no garden", no().gets(0, 1, 0, 0), -1000);
        due("gets(11, 0, 0, 0) of twelve", plant(TWELVE).gets(11, 0, 0, 0), 0);
    }
}
