/** Boundary cases of promises 58 to 72: wet hours, acts, summers, what is counted and kept, rows of numbers. */
public final class ActsBoundaryTest {
    /** Head 1 takes 1 in the first dry hour. */
    private static final String PAIR = "row hard 1 hard 1;say 1 to 0 at 0;";
    /** Three heads that nobody sways. */
    private static final String HARD = "garden hours 4 law 0 odds 0;row hard 4 hard 4 hard 4;";
    private static final String BARE = "garden hours 3 law 0 odds 4;";

    private final Bounds bounds = new Bounds();

    private ActsBoundaryTest() throws Exception {
    }

    public static void main(String[] args) throws Exception {
        ActsBoundaryTest test = new ActsBoundaryTest();
        test.chances();
        test.chancesOfAllViews();
        test.chancesRefused();
        test.means();
        test.sayings();
        test.slugs();
        test.mostActs();
        test.undoing();
        test.beginningAnew();
        test.wetHoursDrawn();
        test.viewsDrawn();
        test.luck();
        test.rating();
        test.counting();
        test.orderOfRefusals();
        test.images();
        test.goingBack();
        test.rows();
        test.rowsAnew();
        test.writing();
        test.cutting();
        test.pasting();
        test.pastingRefused();
        test.bounds.finish(58, 72);
    }

    private void due(String call, long got, long want) {
        bounds.due(call, got, want);
    }

    private static CabbageViews no() {
        return new CabbageViews();
    }

    private static CabbageViews plant(String text) {
        return Check.planted(text);
    }

    private static CabbageViews pair(int hours, int odds) {
        return plant("garden hours " + hours + " law 0 odds " + odds + ";" + PAIR);
    }

    // ---- promises 58, 59

    private void chance(CabbageViews x, int head, int view, int hour, long above, long below) {
        String call = "chance(" + head + ", " + view + ", " + hour + ", ";
        due(call + "0)", x.chance(head, view, hour, 0), above);
        due(call + "1)", x.chance(head, view, hour, 1), below);
    }

    private void chances() {
        bounds.term(58, "from each HOUR to the next with odds in ten, by itself (else none is)");
        chance(pair(16, 0), 1, 1, 0, 1, 1);
        chance(pair(16, 0), 1, 0, 0, 0, 1);
        chance(pair(16, 10), 1, 1, 7, 0, 1);
        chance(pair(16, 10), 1, 0, 7, 1, 1);
        chance(pair(16, 5), 1, 1, 0, 1, 2);
        chance(pair(16, 5), 1, 1, 7, 255, 256);
        chance(pair(16, 5), 1, 0, 7, 1, 256);
        chance(pair(16, 1), 1, 1, 7, 99999999, 100000000);
        chance(pair(16, 9), 1, 0, 7, 43046721, 100000000);
        due("view(1, 1): else none is wet", pair(16, 10).view(1, 1), 1);
        bounds.promise(58, "the chance that a HEAD has a VIEW (0 .. 2; eaten 0) in the HOUR behind it, above, below");
        CabbageViews x = plant("garden hours 9 law 0 odds 5;" + PAIR + "say 2 to 1 at 2;slug to 1 at 4;");
        chance(x, 1, 1, 0, 1, 2);
        chance(x, 1, 2, 0, 0, 1);
        chance(x, 1, 2, 1, 1, 1);
        // From hour 2 on head 0 is swayed by head 1, and head 1 by head 0, in the dry hours.
        chance(x, 1, 2, 2, 1, 2);
        chance(x, 0, 2, 2, 1, 2);
        chance(x, 1, 0, 3, 1, 1);
        chance(x, 1, 1, 3, 0, 1);
        CabbageViews held = plant("garden hours 9 law 0 odds 5;row hard 1 hard 1 holds 3;say 1 to 0 at 0;");
        chance(held, 1, 1, 2, 0, 1);
        chance(held, 1, 1, 3, 1, 2);
        // Along a row a view has gone as far as there were dry hours.
        CabbageViews row = plant("garden hours 9 law 0 odds 5;row" + " hard 1".repeat(8) + ";say 1 to 0 at 0;");
        chance(row, 7, 1, 7, 9, 256);
        chance(row, 7, 1, 6, 1, 128);
        chance(row, 7, 0, 5, 1, 1);
        chance(row, 1, 1, 0, 1, 2);
        chance(row, 1, 2, 0, 0, 1);
    }

    /** Of 256 ways that eight hours can go, 237 lead to views of their own here. */
    private void chancesOfAllViews() {
        bounds.promise(58, "the chance that a HEAD has a VIEW (0 .. 2; eaten 0)");
        CabbageViews x = plant("garden hours 9 law 1 odds 5;row hard 1 holds 7 hard 1 hard 1 hard 2 holds 4 hard 2 hard 2"
                + " hard 1 holds 7 hard 1;row hard 1 holds 3 hard 1 hard 1 hard 2;say 2 to 1 at 2;say 1 to 6 at 0;"
                + "say 1 to 3 at 6;say 2 to 5 at 2;say 1 to 2 at 2;say 2 to 6 at 1;say 2 to 9 at 3;say 1 to 9 at 4;"
                + "slug to 6 at 2;slug to 10 at 5;slug to 6 at 2;");
        long ones = 0;
        for (int h = 0; h < 12; h++) {
            long sum = 0;
            for (int v = 0; v <= 2; v++) sum += x.chance(h, v, 7, 0) * (256 / x.chance(h, v, 7, 1));
            due("all views of head " + h, sum, 256);
            ones += x.chance(h, 1, 7, 0) * (256 / x.chance(h, 1, 7, 1));
        }
        bounds.promise(59, "The mean number of HEADS that hold 1 then, above, below");
        due("mean(7, ..) is the sum of all heads' chances", x.mean(7, 0) * (256 / x.mean(7, 1)), ones);
    }

    private void chancesRefused() {
        bounds.promise(58, "WET (X) from HOURS 0 to one (0 .. 7, ahead of the last)");
        for (int hours = 1; hours <= 16; hours++) {
            CabbageViews x = pair(hours, 5);
            int last = Math.min(7, hours - 1);
            bounds.only("chance(1, 1, .., 1) of hours " + hours, t -> x.chance(1, 1, t, 1), 0, last, -2);
            bounds.only("chance(0, 0, .., 0) of hours " + hours, t -> x.chance(0, 0, t, 0), 0, last, -2);
        }
        bounds.promise(58, "-2: there are none such");
        CabbageViews x = pair(9, 5);
        bounds.heads("chance(.., 1, 0, 1)", (y, h) -> y.chance(h, 1, 0, 1), -2);
        bounds.views("chance(0, .., 0, 0)", (y, v) -> y.chance(0, v, 0, 0), 0, -2);
        bounds.only("chance(0, 1, 0, ..)", what -> x.chance(0, 1, 0, what), 0, 1, -2);
        due("chance(0, 0, 0, 0), no heads", plant(BARE).chance(0, 0, 0, 0), -2);
        due("chance(0, 0, 0, 0), no garden", no().chance(0, 0, 0, 0), -2);
    }

    private void mean(CabbageViews x, int hour, long above, long below) {
        due("mean(" + hour + ", 0)", x.mean(hour, 0), above);
        due("mean(" + hour + ", 1)", x.mean(hour, 1), below);
    }

    private void means() {
        bounds.promise(59, "The mean number of HEADS that hold 1 then, above, below");
        mean(pair(9, 0), 0, 2, 1);
        mean(pair(9, 10), 7, 1, 1);
        mean(pair(9, 5), 0, 3, 2);
        mean(pair(9, 1), 7, 199999999, 100000000);
        mean(plant("garden hours 9 law 0 odds 5;row hard 4;say 2 to 0 at 0;"), 7, 0, 1);
        mean(plant("garden hours 9 law 0 odds 5;row hard 4;say 1 to 0 at 0;slug to 0 at 1;"), 0, 0, 1);
        mean(plant("garden hours 9 law 0 odds 5;row hard 4;say 1 to 0 at 8;"), 6, 0, 1);
        mean(plant("garden hours 9 law 0 odds 5;row hard 4;say 1 to 0 at 8;"), 7, 1, 1);
        CabbageViews twelve = plant("garden hours 9 law 2 odds 3;" + ("row" + " hard 4".repeat(6) + ";").repeat(2));
        for (int h = 0; h < 12; h++) twelve.say(1, h, 0);
        mean(twelve, 7, 12, 1);
        mean(plant(BARE), 0, 0, 1);
        // Along a row: one more for each dry hour, until all eight hold it.
        CabbageViews row = plant("garden hours 9 law 0 odds 5;row" + " hard 1".repeat(8) + ";say 1 to 0 at 0;");
        mean(row, 6, 9, 2);
        mean(row, 7, 1279, 256);
        mean(row, 0, 3, 2);
        mean(row, 1, 2, 1);
        bounds.promise(59, "-2: there are none such");
        for (int hours = 1; hours <= 16; hours++) {
            CabbageViews x = pair(hours, 5);
            bounds.only("mean(.., 0) of hours " + hours, t -> x.mean(t, 0), 0, Math.min(7, hours - 1), -2);
        }
        CabbageViews x = pair(9, 5);
        bounds.only("mean(0, ..)", what -> x.mean(0, what), 0, 1, -2);
        bounds.refusedOutside("mean(.., 0), no garden", t -> no().mean(t, 0), 0, -1, -2);
    }

    // ---- promises 60 to 63

    private void sayings() {
        bounds.promise(60, "A VIEW (1 or 2) is SAID to a HEAD in an HOUR (the last one, too): how many hold it on the last HOUR"
                + " then");
        CabbageViews x = plant(HARD);
        due("say(2, 0, 4), in the last hour", x.say(2, 0, 4), 1);
        due("say(1, 0, 3), said 2 in the last", x.say(1, 0, 3), 0);
        due("say(2, 2, 0), in the first hour", x.say(2, 2, 0), 2);
        x.slug(1, 4);
        due("say(2, 1, 4) to one that is eaten then", x.say(2, 1, 4), 2);
        due("count(7)", x.count(7), 5);
        CabbageViews late = plant("garden hours 16 law 0 odds 0;row hard 1;");
        due("say(1, 0, 16)", late.say(1, 0, 16), 1);
        due("view(0, 16)", late.view(0, 16), 1);
        due("view(0, 15)", late.view(0, 15), 0);
        bounds.promise(60, "-2: there are none such");
        bounds.refusedOutside("say(.., 0, 0)", v -> x.say(v, 0, 0), 1, 2, -2);
        bounds.refusedOutside("say(1, .., 0)", h -> x.say(1, h, 0), 0, 2, -2);
        bounds.refusedOutside("say(1, 0, ..)", t -> x.say(1, 0, t), 0, 4, -2);
        due("count(7): none of those was an act", x.count(7), 5);
        due("holding(2, 4) as it was", x.holding(2, 4), 5);
        due("say(1, 0, 0), no heads", plant(BARE).say(1, 0, 0), -2);
        due("say(1, 0, 0), no garden", no().say(1, 0, 0), -2);
    }

    private void slugs() {
        bounds.promise(61, "A SLUG eats a HEAD in an HOUR (the last one, too): HEADS eaten by the last one then, as bits");
        CabbageViews x = plant(HARD + "slug to 1 at 2;");
        due("slug(0, 4), in the last hour", x.slug(0, 4), 3);
        due("eaten(3)", x.eaten(3), 2);
        due("slug(0, 4), once more", x.slug(0, 4), 3);
        due("slug(0, 0), earlier", x.slug(0, 0), 3);
        due("eaten(0)", x.eaten(0), 1);
        due("slug(2, 1)", x.slug(2, 1), 7);
        due("count(7): each was an act", x.count(7), 4);
        CabbageViews twelve = plant("garden hours 16 law 0 odds 0;" + ("row" + " hard 4".repeat(6) + ";").repeat(2));
        due("slug(11, 16) of twelve", twelve.slug(11, 16), 2048);
        bounds.promise(61, "-2, -5 likewise");
        bounds.refusedOutside("slug(.., 0)", h -> x.slug(h, 0), 0, 2, -2);
        bounds.refusedOutside("slug(0, ..)", t -> x.slug(0, t), 0, 4, -2);
        due("count(7): none of those was an act", x.count(7), 4);
        due("slug(0, 0), no heads", plant(BARE).slug(0, 0), -2);
        due("slug(0, 0), no garden", no().slug(0, 0), -2);
    }

    private void mostActs() {
        CabbageViews x = plant(HARD + "say 2 to 0 at 0;slug to 2 at 4;");
        for (int i = 1; i <= 29; i++) x.say(1 + i % 2, 0, 1);
        bounds.promise(60, "-5: there were 30 acts");
        due("count(7)", x.count(7), 29);
        due("the 30th", x.say(1, 1, 2), 1);
        due("count(7)", x.count(7), 30);
        due("the 31st", x.say(1, 1, 2), -5);
        due("the 31st of view 2", x.say(2, 0, 4), -5);
        due("holding(2, 4) as it was", x.holding(2, 4), 1);
        due("count(7) as it was", x.count(7), 30);
        bounds.refusedOutside("-2 is asked ahead: say(.., 0, 0)", v -> x.say(v, 0, 0), 1, 2, -2);
        bounds.refusedOutside("-2 is asked ahead: say(1, .., 0)", h -> x.say(1, h, 0), 0, 2, -2);
        bounds.refusedOutside("-2 is asked ahead: say(1, 0, ..)", t -> x.say(1, 0, t), 0, 4, -2);
        bounds.promise(61, "-2, -5 likewise");
        due("the 31st", x.slug(1, 0), -5);
        due("eaten(4) as it was", x.eaten(4), 4);
        bounds.refusedOutside("-2 is asked ahead: slug(.., 0)", h -> x.slug(h, 0), 0, 2, -2);
        bounds.refusedOutside("-2 is asked ahead: slug(0, ..)", t -> x.slug(0, t), 0, 4, -2);
        due("undo()", x.undo(), 29);
        due("the 30th once more", x.slug(1, 0), 6);
        due("the 31st once more", x.slug(1, 0), -5);
        due("anew()", x.anew(), 30);
        for (int i = 1; i <= 30; i++) due("slug " + i, x.slug(1, 3), 6);
        due("a 31st slug", x.slug(1, 3), -5);
        due("a 31st saying", x.say(1, 0, 0), -5);
    }

    private void undoing() {
        bounds.promise(62, "The latest act is taken back: how many there are. -2: there is no GARDEN; -5: there is none");
        CabbageViews x = plant(HARD + "say 1 to 0 at 0;slug to 2 at 0;");
        due("undo(), what is told is no act", x.undo(), -5);
        x.say(2, 0, 0);
        x.slug(0, 1);
        x.say(2, 1, 0);
        due("undo() of three", x.undo(), 2);
        due("holding(2, 0), without the latest", x.holding(2, 0), 1);
        due("undo() of two", x.undo(), 1);
        due("eaten(4), without the slug", x.eaten(4), 4);
        due("undo() of one", x.undo(), 0);
        due("holding(1, 4), as told", x.holding(1, 4), 1);
        due("undo() of none", x.undo(), -5);
        due("count(7)", x.count(7), 0);
        CabbageViews last = plant("garden hours 16 law 0 odds 0;row hard 1 hard 1;");
        last.say(1, 0, 16);
        last.slug(1, 16);
        last.undo();
        due("eaten(16), without the slug", last.eaten(16), 0);
        last.undo();
        due("view(0, 16), without the saying", last.view(0, 16), 0);
        due("undo(), no heads", plant(BARE).undo(), -5);
        due("undo(), no garden", no().undo(), -2);
    }

    private void beginningAnew() {
        bounds.promise(63, "All are: how many there were. -2 likewise");
        CabbageViews x = plant(HARD + "say 1 to 0 at 0;slug to 2 at 0;");
        due("anew() of none", x.anew(), 0);
        x.say(2, 0, 0);
        x.slug(1, 1);
        due("anew() of two", x.anew(), 2);
        due("count(7)", x.count(7), 0);
        due("holding(1, 4), as told", x.holding(1, 4), 1);
        due("eaten(4), as told", x.eaten(4), 4);
        due("anew() once more", x.anew(), 0);
        due("undo() behind it", x.undo(), -5);
        due("anew(), no heads", plant(BARE).anew(), 0);
        due("anew(), no garden", no().anew(), -2);
    }

    // ---- promises 64, 65

    private void wetHoursDrawn() {
        bounds.term(64, "x becomes (1103515245 x + 12345) modulo 2,147,483,648 (at first it is the seed); a draw: x / 65536, cut,"
                + " modulo 10");
        // By odds 5 those hours are wet whose draw is below 5. The draws were worked out with another program.
        int[][] draws = {
            {0, 0, 8, 8, 7, 8, 7, 5, 1, 2, 0, 1, 2, 9, 8, 7, 5},
            {1, 8, 8, 3, 5, 1, 7, 0, 9, 2, 6, 9, 7, 4, 0, 5, 3},
            {7, 4, 6, 8, 4, 1, 5, 4, 0, 5, 3, 3, 3, 0, 4, 9, 2},
            {1999999999, 3, 3, 6, 9, 1, 1, 9, 0, 5, 8, 9, 4, 0, 5, 3, 7},
            {2000000000, 4, 3, 1, 7, 6, 2, 7, 7, 5, 4, 7, 0, 4, 8, 1, 3}};
        for (int[] row : draws) {
            for (int odds = 0; odds <= 10; odds++) {
                CabbageViews x = pair(16, odds);
                int wet = 0;
                for (int t = 0; t < 16; t++) wet |= row[t + 1] < odds ? 1 << t : 0;
                due("drawn(" + row[0] + ", 0), odds " + odds, x.drawn(row[0], 0), wet);
                int lasting = wet == 65535 ? 1 : 3;
                due("drawn(" + row[0] + ", 1), odds " + odds, x.drawn(row[0], 1), lasting);
            }
        }
        bounds.term(64, "In a WET hour nobody takes any");
        for (int law = 0; law < 4; law++) {
            CabbageViews wet = plant("garden hours 5 law " + law + " odds 10;row hard 1 hard 1 hard 1;say 1 to 1 at 0;"
                    + "say 2 to 2 at 3;");
            due("drawn(3, 1), law " + law, wet.drawn(3, 1), 2);
            due("drawn(3, 2), law " + law + ", what is said is held", wet.drawn(3, 2), 4);
        }
        bounds.term(64, "HOUR by HOUR ahead of the last a draw: below odds it is WET");
        for (int hours = 1; hours <= 16; hours++) {
            due("drawn(7, 0), all wet, hours " + hours, pair(hours, 10).drawn(7, 0), (1 << hours) - 1);
            due("drawn(7, 0), none wet, hours " + hours, pair(hours, 0).drawn(7, 0), 0);
        }
    }

    private void viewsDrawn() {
        bounds.promise(64, "what 0: WET HOURS, as bits, 1: HEADS that hold 1 on the last HOUR, as bits, 2: those that hold 2");
        CabbageViews x = plant("garden hours 2 law 0 odds 10;row hard 1 hard 1;say 1 to 0 at 0;say 2 to 1 at 2;");
        due("drawn(0, 0)", x.drawn(0, 0), 3);
        due("drawn(0, 1)", x.drawn(0, 1), 1);
        due("drawn(0, 2), what is said in the last hour", x.drawn(0, 2), 2);
        x.slug(0, 2);
        due("drawn(0, 1), eaten in the last hour", x.drawn(0, 1), 0);
        due("drawn(5, 0), no heads", plant("garden hours 3 law 0 odds 10;").drawn(5, 0), 7);
        due("drawn(5, 1), no heads", plant(BARE).drawn(5, 1), 0);
        bounds.promise(64, "-2: there are none such, no GARDEN");
        bounds.refusedOutside("drawn(.., 0)", seed -> x.drawn(seed, 0), 0, 2000000000, -2);
        bounds.refusedOutside("drawn(.., 2)", seed -> x.drawn(seed, 2), 0, 2000000000, -2);
        bounds.only("drawn(.., 1), the least seeds", seed -> seed > 3 ? -2 : x.drawn(seed, 1), 0, 3, -2);
        due("drawn(2000000000, 1)", x.drawn(2000000000, 1), 0);
        due("drawn(2000000001, 1)", x.drawn(2000000001, 1), -2);
        bounds.only("drawn(0, ..)", what -> x.drawn(0, what), 0, 2, -2);
        bounds.refusedOutside("drawn(0, ..), no garden", what -> no().drawn(0, what), 0, -1, -2);
    }

    private void luck() {
        bounds.promise(65, "Of n (1 .. 20) such from seeds, the seed and 1, .., in how many a HEAD has a VIEW (0 .. 2; eaten 0) on"
                + " the last HOUR");
        // Of seeds 0 .. 19 the first draw is below 5 for nine, the first two are for six.
        due("luck(0, 20, 1, 1), one hour", pair(1, 5).luck(0, 20, 1, 1), 11);
        due("luck(0, 20, 1, 0), one hour", pair(1, 5).luck(0, 20, 1, 0), 9);
        due("luck(0, 20, 1, 1), two hours", pair(2, 5).luck(0, 20, 1, 1), 14);
        due("luck(0, 20, 1, 2), never", pair(2, 5).luck(0, 20, 1, 2), 0);
        due("luck(2000000000, 20, 1, 1), the largest seed", pair(1, 5).luck(2000000000, 20, 1, 1), 7);
        due("luck(2000000000, 20, 1, 1), two hours", pair(2, 5).luck(2000000000, 20, 1, 1), 14);
        due("luck(0, 1, 1, 0), one summer, wet", pair(1, 5).luck(0, 1, 1, 0), 1);
        due("luck(1, 1, 1, 1), one summer, dry", pair(1, 5).luck(1, 1, 1, 1), 1);
        due("luck(0, 20, 1, 1), odds 10", pair(16, 10).luck(0, 20, 1, 1), 0);
        due("luck(0, 20, 1, 1), odds 0", pair(1, 0).luck(0, 20, 1, 1), 20);
        CabbageViews eaten = plant("garden hours 2 law 0 odds 5;row hard 4;say 2 to 0 at 0;slug to 0 at 2;");
        due("luck(9, 20, 0, 0), eaten has 0", eaten.luck(9, 20, 0, 0), 20);
        due("luck(9, 20, 0, 2), eaten", eaten.luck(9, 20, 0, 2), 0);
        bounds.promise(65, "-2: there are none such");
        CabbageViews x = pair(2, 5);
        bounds.refusedOutside("luck(.., 1, 0, 1)", seed -> x.luck(seed, 1, 0, 1), 0, 2000000000, -2);
        due("luck(2000000001, 1, 0, 1)", x.luck(2000000001, 1, 0, 1), -2);
        bounds.only("luck(0, .., 0, 1)", n -> x.luck(0, n, 0, 1), 1, 20, -2);
        bounds.only("luck(0, 1, .., 1)", h -> x.luck(0, 1, h, 1), 0, 1, -2);
        bounds.only("luck(0, 1, 0, ..)", v -> x.luck(0, 1, 0, v), 0, 2, -2);
        due("luck(0, 1, 0, 0), no heads", plant(BARE).luck(0, 1, 0, 0), -2);
        due("luck(0, 1, 0, 0), no garden", no().luck(0, 1, 0, 0), -2);
    }

    // ---- promises 66 to 69

    private void rating() {
        bounds.promise(66, "hard of a HEAD is n (1 .. 4) from now on: what it was");
        CabbageViews x = plant("garden hours 1 law 0 odds 0;row hard 4 hard 3 hard 2;say 1 to 1 at 0;");
        due("rate(0, 1)", x.rate(0, 1), 4);
        due("head(0, 0)", x.head(0, 0), 1);
        due("holding(1, 1): head 0 takes it", x.holding(1, 1), 3);
        due("rate(0, 1), the same", x.rate(0, 1), 1);
        due("rate(2, 4)", x.rate(2, 4), 2);
        due("rate(2, 1)", x.rate(2, 1), 4);
        due("holding(1, 1): head 2 takes it, too", x.holding(1, 1), 7);
        bounds.promise(66, "-2: there are none such");
        bounds.only("rate(.., 1)", h -> x.rate(h, 1), 0, 2, -2);
        bounds.only("rate(0, ..)", n -> x.rate(0, n), 1, 4, -2);
        due("head(0, 0), the last that was not refused", x.head(0, 0), 4);
        due("rate(0, 1), no heads", plant(BARE).rate(0, 1), -2);
        due("rate(0, 1), no garden", no().rate(0, 1), -2);
        bounds.promise(66, "-5: there are acts that are not taken back");
        x.say(1, 0, 0);
        due("rate(0, 2) with an act", x.rate(0, 2), -5);
        due("head(0, 0), as it was", x.head(0, 0), 4);
        bounds.refusedOutside("-2 is asked ahead: rate(.., 1)", h -> x.rate(h, 1), 0, 2, -2);
        bounds.refusedOutside("-2 is asked ahead: rate(0, ..)", n -> x.rate(0, n), 1, 4, -2);
        x.undo();
        due("rate(0, 2), it is taken back", x.rate(0, 2), 4);
        x.slug(0, 0);
        due("rate(0, 3) with a slug", x.rate(0, 3), -5);
        x.anew();
        due("rate(0, 3), all are taken back", x.rate(0, 3), 2);
    }

    private void counting() {
        bounds.promise(67, "0 hours, 1 LAW, 2 odds, 3 ROWS, 4 HEADS, 5 SAYINGS told, 6 SLUGS told, 7 acts, 8 LINES, 9 bytes of the"
                + " TAPE, 10 SLOTS that have a row");
        CabbageViews x = plant("garden hours 16 law 3 odds 10;" + ("row hard 1 hard 1 hard 1;").repeat(4)
                + "say 1 to 0 at 0;".repeat(8) + "slug to 0 at 0;".repeat(4));
        for (int i = 0; i < 30; i++) x.say(1, 0, 0);
        for (int i = 0; i < 30; i++) x.feed(0, 0, 0, 0, 0);
        for (int s = 0; s < 4; s++) {
            due("count(10)", x.count(10), s);
            x.row(s, 3, 60);
        }
        int[] most = {16, 3, 10, 4, 12, 8, 4, 30, 17, 600, 4};
        for (int what = 0; what <= 10; what++) due("count(" + what + "), the most", x.count(what), most[what]);
        x.row(0, 0, 0);
        due("count(10), a row of no numbers in place of another", x.count(10), 4);
        CabbageViews none = no();
        for (int what = 0; what <= 10; what++) due("count(" + what + "), no garden", none.count(what), 0);
        none.row(3, 0, 0);
        due("count(10), a row of no numbers", none.count(10), 1);
        int[] bare = {3, 0, 4, 0, 0, 0, 0, 0, 1, 0, 0};
        for (int what = 0; what <= 10; what++) due("count(" + what + "), no heads", plant(BARE).count(what), bare[what]);
        bounds.promise(67, "NONE for others");
        bounds.only("count", x::count, 0, 10, -1);
        bounds.only("count, no garden", none::count, 0, 10, -1);
    }

    /** Where a call could be refused by two numbers, -2 is the one. */
    private void orderOfRefusals() {
        String words = "-2 (-1,000) is asked ahead of -5, -6";
        CabbageViews none = no();
        bounds.term(62, words);
        due("undo(), no garden and no acts", none.undo(), -2);
        bounds.term(69, words);
        due("back(3), nothing in any", none.back(3), -2);
        due("back(-1), nothing in any", none.back(-1), -2);
        bounds.term(71, words);
        due("write(4, 0, 0), nothing in any", none.write(4, 0, 0), -2);
        bounds.term(72, words);
        due("paste(4, 0, 0, 0, 0), nothing in any", none.paste(4, 0, 0, 0, 0), -2);
        due("paste(0, 0, 4, 0, 0), nothing in any", none.paste(0, 0, 4, 0, 0), -2);
        bounds.term(50, words);
        due("whom(0, 1), no garden and nothing in it", none.whom(0, 1), -2);
        bounds.term(51, words);
        due("ask(0, 1), no garden and nothing in it", none.ask(0, 1), -2);
        bounds.term(52, words);
        due("leaves(0, 1), no garden and nothing in it", none.leaves(0, 1), -2);
        bounds.term(53, words);
        due("laws(0), no garden and nothing in it", none.laws(0), -2);
        CabbageViews full = plant(HARD);
        for (int i = 0; i < 30; i++) full.say(1, 0, 0);
        bounds.term(60, words);
        due("say(3, 0, 0), a 31st", full.say(3, 0, 0), -2);
        due("say(1, 3, 0), a 31st", full.say(1, 3, 0), -2);
        due("say(1, 0, 5), a 31st", full.say(1, 0, 5), -2);
        bounds.term(61, words);
        due("slug(3, 0), a 31st", full.slug(3, 0), -2);
        due("slug(0, 5), a 31st", full.slug(0, 5), -2);
        bounds.term(66, words);
        due("rate(3, 1) with acts", full.rate(3, 1), -2);
        due("rate(0, 5) with acts", full.rate(0, 5), -2);
    }

    private void images() {
        bounds.promise(68, "IMAGE k (0 .. 2) keeps the GARDEN, and acts: 0. -2: no such k");
        CabbageViews x = plant(HARD + "say 1 to 0 at 0;");
        x.rate(1, 2);
        x.say(2, 2, 4);
        for (int k = 0; k < 3; k++) due("image(" + k + ")", x.image(k), 0);
        bounds.only("image", x::image, 0, 2, -2);
        bounds.only("image, no garden", no()::image, 0, 2, -2);
        x.anew();
        x.rate(1, 3);
        due("image(1), in place of another", x.image(1), 0);
        x.slug(0, 0);
        due("back(0)", x.back(0), 0);
        due("count(7)", x.count(7), 1);
        due("head(1, 0)", x.head(1, 0), 2);
        due("holding(2, 4)", x.holding(2, 4), 4);
        due("eaten(4)", x.eaten(4), 0);
        due("back(1)", x.back(1), 0);
        due("count(7)", x.count(7), 0);
        due("head(1, 0)", x.head(1, 0), 3);
        for (int i = 0; i < 30; i++) x.slug(1, 4);
        due("image(2) of thirty acts", x.image(2), 0);
        Check.put(x, BARE);
        x.garden();
        x.back(2);
        due("count(7), thirty", x.count(7), 30);
        due("say(1, 0, 0), a 31st", x.say(1, 0, 0), -5);
        due("undo()", x.undo(), 29);
    }

    private void goingBack() {
        bounds.promise(69, "It is as IMAGE k has it: 0. -2: no such k; -6: it has nothing");
        CabbageViews x = no();
        for (int k = 0; k < 3; k++) due("back(" + k + "), it has nothing", x.back(k), -6);
        bounds.only("back, nothing in any", x::back, 0, 2, -2);
        due("image(2) of no garden", x.image(2), 0);
        due("back(1), it has nothing still", x.back(1), -6);
        Check.put(x, HARD);
        x.garden();
        x.say(1, 0, 0);
        due("back(0), refused", x.back(0), -6);
        due("count(7), it stays", x.count(7), 1);
        x.image(0);
        x.say(1, 1, 0);
        x.row(0, 0, 3);
        Check.put(x, "garden hours 99");
        x.garden();
        due("back(0)", x.back(0), 0);
        due("count(7)", x.count(7), 1);
        due("count(9), the tape is no part of it", x.count(9), 15);
        due("count(10), slots are no part of it", x.count(10), 1);
        due("fault(0) is no part of it", x.fault(0), 2);
        due("tell(1)", x.tell(1), 6);
        due("back(2), no garden", x.back(2), 0);
        due("agree(), no garden", x.agree(), -2);
        due("count(8), no garden", x.count(8), 0);
        due("tell(1), no garden", x.tell(1), -2);
        due("back(0) once more", x.back(0), 0);
        due("back(0) twice", x.back(0), 0);
        due("count(4)", x.count(4), 3);
        bounds.refusedOutside("back", x::back, 0, 2, -2);
    }

    // ---- promises 70 to 72

    private void rows() {
        bounds.promise(70, "-2: there is no such SLOT or WIDTH (0 .. 3), or n is above 60");
        CabbageViews x = no();
        bounds.refusedOutside("row(.., 0, 1)", s -> x.row(s, 0, 1), 0, 3, -2);
        bounds.refusedOutside("row(0, .., 1)", w -> x.row(0, w, 1), 0, 3, -2);
        for (int n : new int[] {61, 62, 64, 255, 256, 65536, Bounds.MOST}) due("row(0, 0, " + n + ")", x.row(0, 0, n), -2);
        due("count(10): none of those came", x.count(10), 0);
        bounds.refusedOutside("row(.., 0, -1)", s -> x.row(s, 0, -1), 0, 3, -2);
        bounds.refusedOutside("row(0, .., -1)", w -> x.row(0, w, -1), 0, 3, -2);
        due("row(4, 0, 61)", x.row(4, 0, 61), -2);
        bounds.term(70, "SLOTS 0 .. 3 have rows of numbers of 1, 2, 4 or 8 bytes (WIDTH 0 .. 3), at most 60, or nothing");
        CabbageViews four = no();
        for (int s = 0; s < 4; s++) {
            due("write(" + s + ", 0, 0): nothing", four.write(s, 0, 0), -6);
            due("row(" + s + ", " + s + ", 60)", four.row(s, s, 60), 0);
            due("write(" + s + ", 59, 0)", four.write(s, 59, 0), 0);
        }
        bounds.promise(70, "-3, and the SLOT stays: n is below 0");
        for (int n : new int[] {-1, -2, -60, -256, Bounds.LEAST}) due("row(0, 0, " + n + ")", x.row(0, 0, n), -3);
        due("write(0, 0, 0): it has nothing still", x.write(0, 0, 0), -6);
        due("row(0, 3, 60)", x.row(0, 3, 60), 0);
        due("row(0, 0, -1)", x.row(0, 0, -1), -3);
        due("write(0, 59, 0): it has its row still", x.write(0, 59, 0), 0);
        due("row(0, 0, 61)", x.row(0, 0, 61), -2);
        due("write(0, 59, 0): it has its row still", x.write(0, 59, 0), 0);
        x.row(1, 3, 60);
        due("paste(0, 0, 1, 0, 60): it has its width still", x.paste(0, 0, 1, 0, 60), 0);
    }

    /** Nobody sways anybody: who is seen to hold 1 in hour 0 was told it. */
    private static CabbageViews reading() {
        return plant("garden hours 1 law 0 odds 0;" + ("row" + " hard 4".repeat(6) + ";").repeat(2));
    }

    /**
     * The number that stands in a row of a width, if it is 0 .. 11, else -1. There is no call that reads a
     * number, but it can be put to slot 3 as a head that was seen to hold 1.
     */
    private static int read(CabbageViews x, int slot, int i, int width) {
        x.row(3, width, 3);
        x.write(3, 2, 1);
        x.paste(slot, i, 3, 0, 1);
        int told = x.whom(3, 1);
        return told < 0 ? -1 : Integer.numberOfTrailingZeros(told);
    }

    private void holds(CabbageViews x, int slot, int width, int... numbers) {
        for (int i = 0; i < numbers.length; i++) {
            due("number " + i + " of slot " + slot, read(x, slot, i, width), numbers[i]);
        }
    }

    private static void fill(CabbageViews x, int slot, int width, int... numbers) {
        x.row(slot, width, numbers.length);
        for (int i = 0; i < numbers.length; i++) x.write(slot, i, numbers[i]);
    }

    private void rowsAnew() {
        bounds.promise(70, "A SLOT (0 .. 3) has a row of n numbers of a WIDTH, all 0 (in place of another one): 0");
        for (int width = 0; width < 4; width++) {
            for (int slot = 0; slot < 3; slot++) {
                CabbageViews x = reading();
                due("row(" + slot + ", " + width + ", 60)", x.row(slot, width, 60), 0);
                x.write(slot, 0, 7);
                x.write(slot, 59, 11);
                due("number 59", read(x, slot, 59, width), 11);
                due("number 58", read(x, slot, 58, width), 0);
                due("row(" + slot + ", " + width + ", 60) in place of it", x.row(slot, width, 60), 0);
                due("number 0", read(x, slot, 0, width), 0);
                due("number 59", read(x, slot, 59, width), 0);
                x.write(slot, 1, 7);
                due("row of one number", x.row(slot, width, 1), 0);
                due("write beyond it", x.write(slot, 1, 0), -7);
                due("row of two numbers", x.row(slot, width, 2), 0);
                due("number 1 is 0 again", read(x, slot, 1, width), 0);
                due("row of no numbers", x.row(slot, width, 0), 0);
                due("write to it", x.write(slot, 0, 0), -7);
                due("laws: there is a row, and nothing seen", x.laws(slot), 15);
            }
            CabbageViews x = no();
            due("row(3, " + width + ", 60)", x.row(3, width, 60), 0);
            due("write(3, 59, 1)", x.write(3, 59, 1), 0);
        }
    }

    private void writing() {
        bounds.promise(71, "-2: there is no such SLOT; -6: it has nothing; -7: there is no such number");
        CabbageViews x = reading();
        bounds.refusedOutside("write(.., 0, 0), nothing in any", s -> x.write(s, 0, 0), 0, 3, -2);
        for (int s = 0; s < 4; s++) due("write(" + s + ", 0, 0)", x.write(s, 0, 0), -6);
        due("write(0, -1, 0): -6 is asked ahead of -7", x.write(0, -1, 0), -6);
        due("write(4, -1, 0): -2 is asked ahead of -7", x.write(4, -1, 0), -2);
        x.row(0, 1, 60);
        bounds.only("write(0, .., 1) of sixty", i -> x.write(0, i, 1), 0, 59, -7);
        due("number 0 behind those refused", read(x, 0, 0, 1), 1);
        due("number 59 behind those refused", read(x, 0, 59, 1), 1);
        x.row(0, 1, 3);
        bounds.only("write(0, .., 2) of three", i -> x.write(0, i, 2), 0, 2, -7);
        holds(x, 0, 1, 2, 2, 2);
        x.row(0, 1, 0);
        bounds.refusedOutside("write(0, .., 0) of none", i -> x.write(0, i, 0), 0, -1, -7);
    }

    private void cutting() {
        bounds.promise(71, "Number i of the SLOT's row is v, cut to its WIDTH: 0");
        for (int width = 0; width < 4; width++) {
            for (int bit = 4; bit < 64; bit++) {
                CabbageViews x = reading();
                x.row(0, width, 3);
                // What is beyond the width is cut off; what is not makes a number that is no head's.
                int want = bit >= 8 << width ? 5 : -1;
                due("write(0, 1, ..)", x.write(0, 1, 1L << bit | 5), 0);
                due("width " + width + ", bit " + bit + " and 5", read(x, 0, 1, width), want);
                x.write(0, 1, -1L << bit | 5);
                due("width " + width + ", all bits from " + bit + " on, and 5", read(x, 0, 1, width), want);
                due("number 0 stays", read(x, 0, 0, width), 0);
                due("number 2 stays", read(x, 0, 2, width), 0);
            }
            CabbageViews x = reading();
            fill(x, 0, width, -1, 0, 11, 12);
            x.write(0, 1, Long.MIN_VALUE);
            holds(x, 0, width, -1, width == 3 ? -1 : 0, 11, -1);
            x.write(0, 1, Long.MAX_VALUE);
            due("width " + width + ", the most", read(x, 0, 1, width), -1);
        }
    }

    private void pasting() {
        bounds.promise(72, "are put to another one's (or its own), from one on, as they were: 0");
        for (int width = 0; width < 4; width++) {
            CabbageViews x = reading();
            fill(x, 0, width, 1, 2, 3, 4, 5);
            fill(x, 1, width, 6, 7, 8);
            due("paste(0, 4, 1, 2, 1), the last to the last", x.paste(0, 4, 1, 2, 1), 0);
            holds(x, 1, width, 6, 7, 5);
            due("paste(0, 0, 1, 0, 3), as many as it has", x.paste(0, 0, 1, 0, 3), 0);
            holds(x, 1, width, 1, 2, 3);
            due("paste(1, 1, 0, 3, 2)", x.paste(1, 1, 0, 3, 2), 0);
            holds(x, 0, width, 1, 2, 3, 2, 3);
            due("paste(1, 0, 0, 0, 0), none", x.paste(1, 0, 0, 0, 0), 0);
            due("paste(1, 3, 0, 5, 0), none, from the ends on", x.paste(1, 3, 0, 5, 0), 0);
            holds(x, 0, width, 1, 2, 3, 2, 3);
            fill(x, 0, width, 1, 2, 3, 4, 5);
            due("paste(0, 0, 0, 1, 4), its own, one on", x.paste(0, 0, 0, 1, 4), 0);
            holds(x, 0, width, 1, 1, 2, 3, 4);
            fill(x, 0, width, 1, 2, 3, 4, 5);
            due("paste(0, 1, 0, 0, 4), its own, one back", x.paste(0, 1, 0, 0, 4), 0);
            holds(x, 0, width, 2, 3, 4, 5, 5);
            due("paste(0, 0, 0, 0, 5), its own, to where they are", x.paste(0, 0, 0, 0, 5), 0);
            holds(x, 0, width, 2, 3, 4, 5, 5);
        }
        CabbageViews x = reading();
        int[] sixty = new int[60];
        for (int i = 0; i < 60; i++) sixty[i] = i * 5 % 12;
        fill(x, 0, 2, sixty);
        x.row(1, 2, 60);
        due("paste(0, 0, 1, 0, 60), sixty", x.paste(0, 0, 1, 0, 60), 0);
        holds(x, 1, 2, sixty);
        x.row(1, 0, 0);
        x.row(2, 0, 0);
        due("paste(1, 0, 2, 0, 0), rows of none", x.paste(1, 0, 2, 0, 0), 0);
        due("paste(1, 0, 2, 0, 1), rows of none", x.paste(1, 0, 2, 0, 1), -7);
    }

    private void pastingRefused() {
        bounds.promise(72, "-2: there is no such SLOT; -6: one has nothing; -8: they are not of one WIDTH");
        CabbageViews x = reading();
        fill(x, 0, 1, 1, 2, 3, 4);
        bounds.refusedOutside("paste(.., 0, 0, 0, 1)", s -> x.paste(s, 0, 0, 0, 1), 0, 3, -2);
        bounds.refusedOutside("paste(0, 0, .., 0, 1)", s -> x.paste(0, 0, s, 0, 1), 0, 3, -2);
        due("paste(1, 0, 4, 0, 1): -2 is asked ahead of -6", x.paste(1, 0, 4, 0, 1), -2);
        due("paste(-1, 0, 1, 0, 1): -2 is asked ahead of -6", x.paste(-1, 0, 1, 0, 1), -2);
        for (int s = 1; s < 4; s++) {
            due("paste(0, 0, " + s + ", 0, 1)", x.paste(0, 0, s, 0, 1), -6);
            due("paste(" + s + ", 0, 0, 0, 1)", x.paste(s, 0, 0, 0, 1), -6);
            due("paste(" + s + ", 0, " + s + ", 0, 0)", x.paste(s, 0, s, 0, 0), -6);
            due("paste(0, -1, " + s + ", 0, 1): -6 is asked ahead of -7", x.paste(0, -1, s, 0, 1), -6);
        }
        for (int width = 0; width < 4; width++) {
            x.row(1, width, 4);
            due("paste(0, 0, 1, 0, 4) to width " + width, x.paste(0, 0, 1, 0, 4), width == 1 ? 0 : -8);
            due("paste(1, 0, 0, 0, 0) of width " + width, x.paste(1, 0, 0, 0, 0), width == 1 ? 0 : -8);
            due("paste(0, 0, 1, 0, 5) to width " + width, x.paste(0, 0, 1, 0, 5), width == 1 ? -7 : -8);
        }
        holds(x, 0, 1, 1, 2, 3, 4);
        holds(x, 1, 3, 0, 0, 0, 0);
        bounds.promise(72, "-7, and nothing happens: some are beyond their rows, or a place or n is below 0");
        CabbageViews y = reading();
        fill(y, 0, 1, 1, 2, 3, 4);
        fill(y, 1, 1, 5, 6, 7);
        bounds.only("paste(0, .., 1, 1, 2)", i -> i < 0 || i > 2 ? y.paste(0, i, 1, 1, 2) : 0, 0, 2, -7);
        bounds.only("paste(0, 0, 1, .., 2)", k -> k < 0 || k > 1 ? y.paste(0, 0, 1, k, 2) : 0, 0, 1, -7);
        bounds.only("paste(0, 0, 1, 0, ..)", n -> n < 0 || n > 3 ? y.paste(0, 0, 1, 0, n) : 0, 0, 3, -7);
        bounds.only("paste(1, 0, 0, 0, ..)", n -> n < 0 || n > 3 ? y.paste(1, 0, 0, 0, n) : 0, 0, 3, -7);
        due("paste(0, 1, 0, 0, 4), its own", y.paste(0, 1, 0, 0, 4), -7);
        due("paste(0, 0, 0, 1, 4), its own", y.paste(0, 0, 0, 1, 4), -7);
        due("paste(0, -1, 1, 0, 0), none, from below 0 on", y.paste(0, -1, 1, 0, 0), -7);
        due("paste(0, 0, 1, -1, 0), none, to below 0", y.paste(0, 0, 1, -1, 0), -7);
        due("paste(0, MOST, 1, 0, MOST)", y.paste(0, Bounds.MOST, 1, 0, Bounds.MOST), -7);
        due("paste(0, 1, 1, 1, MOST)", y.paste(0, 1, 1, 1, Bounds.MOST), -7);
        // NOTES.md: of no numbers, too, a place behind the row's end is beyond the row.
        due("paste(0, 5, 1, 0, 0)", y.paste(0, 5, 1, 0, 0), -7);
        due("paste(0, 0, 1, 4, 0)", y.paste(0, 0, 1, 4, 0), -7);
        holds(y, 0, 1, 1, 2, 3, 4);
        holds(y, 1, 1, 5, 6, 7);
    }
}
