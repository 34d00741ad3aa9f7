/** Each promise of the document, with answers worked out by hand. */
public final class PromisesTest {
    /**
     * Row 0: heads 0, 1, 2; row 1: heads 3, 4. The views, hour by hour:
     * 10000, 11002, 11001, 11x11, 11x11, 11x11 (x: eaten).
     */
    private static final String FIVE = "garden hours 5 law 0 odds 3;"
            + "row hard 1 hard 1 hard 2; row hard 1 holds 2 hard 1;"
            + "say 1 to 0 at 0; say 2 to 4 at 1; slug to 2 at 3;";
    /** Head 1 (hard 2, one neighbour) is swayed by nobody, head 0 by head 1. */
    private static final String TWO = "garden hours 2 law 0 odds 0; row hard 1 hard 2;";
    private static final String BARE = "garden hours 3 law 0 odds 4;";
    private static final int LEAST = Integer.MIN_VALUE;
    private static final int MOST = Integer.MAX_VALUE;

    private final Check check = new Check();

    public static void main(String[] args) {
        PromisesTest test = new PromisesTest();
        test.tapeAndGarden();
        test.faults();
        test.fullTape();
        test.headsAndRows();
        test.viewsByHour();
        test.viewsOfHeads();
        test.wholeStory();
        test.circles();
        test.laws();
        test.holdingOut();
        test.saidAndEaten();
        test.crowds();
        test.neighbours();
        test.telling();
        test.shares();
        test.samples();
        test.contest();
        test.seen();
        test.games();
        test.wetHours();
        test.acts();
        test.summers();
        test.rating();
        test.counts();
        test.images();
        test.slots();
        test.emptyGarden();
        test.check.finish();
    }

    private void due(String call, long got, long want) {
        check.due(call, got, want);
    }

    // ---- promises 1 to 5

    private void tapeAndGarden() {
        CabbageViews x = new CabbageViews();
        due("1: new count(8)", x.count(8), 0);
        due("1: new fickle()", x.fickle(), -2);
        due("1: new anew()", x.anew(), -2);
        due("1: new worth()", x.worth(), -1000);
        due("5: new fault(0)", x.fault(0), 0);
        due("5: new fault(1)", x.fault(1), -1);
        due("5: new fault(2)", x.fault(2), -1);
        due("5: new fault(-1)", x.fault(-1), -1);
        for (int i = 1; i <= 30; i++) due("2: feed " + i, x.feed(i, 0, LEAST, MOST, -1), 20 * i);
        due("2: feed beyond 600", x.feed(0, 0, 0, 0, 0), -1);
        due("2: none came", x.count(9), 600);
        due("3: end(601)", x.end(601), -1);
        due("3: end(-1)", x.end(-1), -1);
        due("3: end(600)", x.end(600), 600);
        due("3: end(581)", x.end(581), 581);
        due("2: feed 581", x.feed(0, 0, 0, 0, 0), -1);
        due("3: end(580)", x.end(580), 580);
        due("2: feed 580", x.feed(0, 0, 0, 0, 0), 600);
        due("3: end(0)", x.end(0), 0);
        due("3: end(1)", x.end(1), -1);
        // "gard" "en h" "ours" " 3 l" "aw 2" / " odd" "s 1;" and what end() cuts off.
        x.feed(0x67617264, 0x656E2068, 0x6F757273, 0x2033206C, 0x61772032);
        x.feed(0x206F6464, 0x7320313B, 0, 0, 0);
        due("3: end(28)", x.end(28), 28);
        due("4: garden()", x.garden(), 1);
        due("4: the tape is empty", x.count(9), 0);
        due("4: hours", x.count(0), 3);
        due("4: law", x.count(1), 2);
        due("4: odds", x.count(2), 1);
        due("4: a blank tape", Check.put(x, " \n "), 3);
        due("4: garden() of blanks", x.garden(), 0);
        due("4: no garden then", x.agree(), -2);
        due("4: no hours then", x.count(0), 0);
        due("4: the blanks are gone", x.count(9), 0);
        x = Check.planted(FIVE);
        x.say(1, 0, 0);
        Check.put(x, "garden hours 0");
        due("4: a fault", x.garden(), -4);
        due("4: the tape stays", x.count(9), 14);
        due("4: the garden stays", x.count(8), 6);
        due("4: the act stays", x.count(7), 1);
        due("5: fault(0)", x.fault(0), 2);
        due("5: fault(1)", x.fault(1), 13);
        due("5: fault(3)", x.fault(3), -1);
        Check.put(x, TWO);
        due("4: another garden", x.garden(), 2);
        due("4: nothing done", x.count(7), 0);
        due("5: without a fault", x.fault(0), 0);
        due("5: without a place", x.fault(1), -1);
    }

    private void fault(String text, int fault, int place) {
        CabbageViews x = new CabbageViews();
        Check.put(x, text);
        due("I: garden() of <" + text + ">", x.garden(), fault == 0 ? x.count(8) : -4);
        due("I: fault of <" + text + ">", x.fault(0), fault);
        due("I: place in <" + text + ">", x.fault(1), place);
    }

    private void faults() {
        String g = "garden hours 9 law 0 odds 0;";
        int n = g.length();
        fault(g, 0, -1);
        fault("garden\nhours9law0odds0;row hard1holds16hard 4;", 0, -1);
        fault("garden hours 0016 law 03 odds 010;", 0, -1);
        fault("garden hours 16 law 0 odds 0", 1, 28);
        fault("garden hours 16 law 0 odds 0  ", 1, 30);
        fault("garden", 1, 6);
        fault("garde hours 1 law 0 odds 0;", 1, 0);
        fault("gardens hours 1 law 0 odds 0;", 1, 0);
        fault("  row hard 1;", 1, 2);
        fault(";", 1, 0);
        fault("7", 1, 0);
        fault("Garden hours 1 law 0 odds 0;", 1, 0);
        fault("gardenX", 1, 6);
        fault("gardenz hours 1 law 0 odds 0;", 1, 0);
        fault("warden hours 1 law 0 odds 0;", 1, 0);
        fault("garden\thours 1", 1, 6);
        fault("garden\u00e9", 1, 6);
        fault("garden hours 17 law 9", 2, 13);
        fault("garden hours 0 law 0 odds 0;", 2, 13);
        fault("garden hours 4294967297 law 0 odds 0;", 2, 13);
        fault("garden hours 1 law 4 odds 0;", 2, 19);
        fault("garden hours 1 law 0 odds 11;", 2, 26);
        fault("garden hours -1 law 0 odds 0;", 1, 13);
        fault("garden law 0 hours 1 odds 0;", 1, 7);
        fault(g + g, 1, n);
        fault(g + ";", 1, n);
        fault(g + "hard 1;", 1, n);
        fault(g + "row;", 1, n + 3);
        fault(g + "row", 1, n + 3);
        fault(g + "row 1;", 1, n + 4);
        fault(g + "row hard 0;", 2, n + 9);
        fault(g + "row hard 5;", 2, n + 9);
        fault(g + "row hard 1 holds 0;", 2, n + 17);
        fault(g + "row hard 1 holds 17;", 2, n + 17);
        fault(g + "row hard 1 holds 1 holds 1;", 1, n + 19);
        fault(g + "row hard 1 hard;", 1, n + 15);
        fault(g + "row hard 1 row hard 1;", 1, n + 11);
        fault(g + "say 1 to 0 at 0;", 2, n + 9);
        fault(g + "slug to 0 at 0;", 2, n + 8);
        String r = g + "row hard 1 hard 1;";
        int m = r.length();
        fault(r + "say 0 to 0 at 0;", 2, m + 4);
        fault(r + "say 3 to 9 at 0;", 2, m + 4);
        fault(r + "say 2 to 2 at 0;", 2, m + 9);
        fault(r + "say 2 to 1 at 15;", 0, -1);
        fault(r + "say 2 to 1 at 16;", 2, m + 14);
        fault(r + "slug to 2 at 0;", 2, m + 8);
        fault(r + "slug to 1 at 16;", 2, m + 13);
        fault(r + "slug 1 to 1 at 1;", 1, m + 5);
        fault(r + "slug to 1 at 15;say 1 to 0 at 9;", 0, -1);
        fault(r + "say 1 to 0 at 0;row hard 1;", 1, m + 16);
        fault(r + "slug to 0 at 0;row hard 1;", 1, m + 15);
        countedFaults(g, r);
    }

    /** The tape filled to its last byte, and one that was longer before. */
    private void fullTape() {
        String g = "garden hours 1 law 0 odds 0;";
        fault(g + " ".repeat(600 - g.length()), 0, -1);
        fault(g + "\n".repeat(599 - g.length()) + ";", 1, 599);
        fault(g + "row hard" + " ".repeat(590 - g.length()) + "12", 2, 598);
        fault(g + "x".repeat(600 - g.length()), 1, g.length());
        fault(g + "row hard " + "0".repeat(591 - g.length()), 2, g.length() + 9);
        CabbageViews x = new CabbageViews();
        Check.put(x, "garden hours 1 law 0 odds 11  ;");
        x.end(27);
        due("3: the number is cut", x.garden(), -4);
        due("3: so that the end is the fault", x.fault(0), 1);
        due("3: at its place", x.fault(1), 27);
        x.feed(0x3B3B3B3B, 0, 0, 0, 0);
        x.end(28);
        due("3: what comes stands behind what is left", x.garden(), 1);
    }

    private void countedFaults(String g, String r) {
        int n = g.length();
        int m = r.length();
        String one = "row hard 1;";
        fault(g + one.repeat(4), 0, -1);
        fault(g + one.repeat(5), 3, n + 44);
        fault(g + one.repeat(4) + "row;", 3, n + 44);
        fault(g + one.repeat(4) + "slug to 0 at 0;" + one, 1, n + 59);
        fault(g + "row" + " hard 1".repeat(8) + ";", 0, -1);
        fault(g + "row" + " hard 1".repeat(9) + ";", 3, n + 3 + 8 * 7 + 1);
        String six = "row" + " hard 1".repeat(6) + ";";
        fault(g + six + six, 0, -1);
        fault(g + six + six + one, 3, n + 2 * six.length() + 4);
        fault(g + six + six + "row;", 1, n + 2 * six.length() + 3);
        fault(g + six + "row" + " hard 1".repeat(7) + ";", 3, n + six.length() + 3 + 6 * 7 + 1);
        String say = "say 1 to 0 at 0;";
        fault(r + say.repeat(8), 0, -1);
        fault(r + say.repeat(9), 3, m + 8 * 16);
        String slug = "slug to 0 at 0;";
        fault(r + slug.repeat(4) + say, 0, -1);
        fault(r + slug.repeat(5), 3, m + 4 * 15);
        fault(r + say.repeat(8) + slug.repeat(4) + "say 3", 3, m + 8 * 16 + 4 * 15);
    }

    // ---- promises 6 to 8

    private void headsAndRows() {
        CabbageViews x = Check.planted(FIVE);
        due("6: hard", x.head(2, 0), 2);
        due("6: holds", x.head(3, 1), 2);
        due("6: holds not told", x.head(4, 1), 0);
        due("6: row", x.head(3, 2), 1);
        due("6: place", x.head(4, 3), 1);
        due("6: what -1", x.head(0, -1), -2);
        due("6: what 4", x.head(0, 4), -2);
        due("6: head 5", x.head(5, 0), -2);
        due("6: head -1", x.head(-1, 0), -2);
        int[] near = {2 + 8, 1 + 4 + 16, 2, 16 + 1, 8 + 2};
        for (int h = 0; h < 5; h++) due("7: near(" + h + ")", x.near(h), near[h]);
        due("7: near(5)", x.near(5), -2);
        due("7: near(-1)", x.near(-1), -2);
        due("8: heads(0)", x.heads(0), 7);
        due("8: heads(1)", x.heads(1), 24);
        due("8: heads(2)", x.heads(2), -2);
        due("8: heads(-1)", x.heads(-1), -2);
    }

    // ---- promises 9 to 12

    private void viewsByHour() {
        CabbageViews x = Check.planted(FIVE);
        String[] views = {"10000", "11002", "11001", "11011", "11011", "11011"};
        int[] turned = {1, 18, 16, 8, 0, 0};
        for (int t = 0; t <= 5; t++) {
            int one = 0;
            int two = 0;
            for (int h = 0; h < 5; h++) {
                int view = views[t].charAt(h) - '0';
                due("9: view(" + h + ", " + t + ")", x.view(h, t), view);
                one |= view == 1 ? 1 << h : 0;
                two |= view == 2 ? 1 << h : 0;
            }
            int eaten = t < 3 ? 0 : 4;
            due("10: holding(1, " + t + ")", x.holding(1, t), one);
            due("10: holding(2, " + t + ")", x.holding(2, t), two);
            due("10: holding(0, " + t + ")", x.holding(0, t), 31 & ~one & ~two & ~eaten);
            due("11: eaten(" + t + ")", x.eaten(t), eaten);
            due("12: turned(" + t + ")", x.turned(t), turned[t]);
        }
        due("9: view(5, 0)", x.view(5, 0), -2);
        due("9: view(0, 6)", x.view(0, 6), -2);
        due("9: view(0, -1)", x.view(0, -1), -2);
        due("10: holding(3, 0)", x.holding(3, 0), -2);
        due("10: holding(-1, 0)", x.holding(-1, 0), -2);
        due("10: holding(1, 6)", x.holding(1, 6), -2);
        due("11: eaten(6)", x.eaten(6), -2);
        due("11: eaten(-1)", x.eaten(-1), -2);
        due("12: turned(6)", x.turned(6), -2);
        x.slug(1, 4);
        due("12: who is eaten has turned", x.turned(4), 2);
        due("9: who is eaten holds none", x.view(1, 4), 0);
    }

    // ---- promises 13 to 16, 32, 33

    private void viewsOfHeads() {
        CabbageViews x = Check.planted(FIVE);
        due("13: sways(4)", x.sways(4), 2);
        due("13: sways(0)", x.sways(0), 0);
        due("13: sways(3)", x.sways(3), 1);
        due("13: sways(5)", x.sways(5), -2);
        due("14: when(4, 2)", x.when(4, 2), 1);
        due("14: when(4, 1)", x.when(4, 1), 2);
        due("14: when(2, 1)", x.when(2, 1), -1);
        due("14: when(0, 1)", x.when(0, 1), 0);
        due("14: when(0, 0)", x.when(0, 0), -2);
        due("14: when(5, 1)", x.when(5, 1), -2);
        due("15: often(4, 2)", x.often(4, 2), 1);
        due("15: often(4, 1)", x.often(4, 1), 4);
        due("15: often(0, 1)", x.often(0, 1), 6);
        due("15: often(2, 1)", x.often(2, 1), 0);
        due("15: often(0, 3)", x.often(0, 3), -2);
        due("15: often(-1, 1)", x.often(-1, 1), -2);
        due("16: heart(4)", x.heart(4), 2);
        due("16: heart(2)", x.heart(2), 0);
        due("16: heart(3)", x.heart(3), 1);
        due("16: heart(5)", x.heart(5), -2);
        due("32: since(3)", x.since(3), 3);
        due("32: since(2)", x.since(2), 0);
        due("32: since(4)", x.since(4), 2);
        due("32: since(5)", x.since(5), -2);
        due("33: held(4)", x.held(4), 4);
        due("33: held(0)", x.held(0), 6);
        due("33: held(2)", x.held(2), 0);
        due("33: held(-1)", x.held(-1), -2);
        x.slug(4, 5);
        due("13: an eaten one sways", x.sways(4), 3);
        due("32: an eaten one", x.since(4), 5);
        due("33: an eaten one", x.held(4), 3);
        CabbageViews swing = Check.planted("garden hours 4 law 0 odds 0;row hard 1 hard 1;"
                + "say 1 to 0 at 0;say 2 to 1 at 0;");
        due("33: views that change each hour", swing.held(0), 1);
    }

    // ---- promises 17 to 20

    private void wholeStory() {
        CabbageViews x = Check.planted(FIVE);
        due("17: fickle()", x.fickle(), 4);
        due("18: agree()", x.agree(), 3);
        due("19: still()", x.still(), 3);
        due("20: quiet()", x.quiet(), 2);
        x = Check.planted("garden hours 3 law 0 odds 0;row hard 4 hard 4;say 1 to 0 at 0;");
        due("17: none", x.fickle(), -1);
        due("18: in none", x.agree(), -1);
        due("19: from the first", x.still(), 0);
        due("20: all", x.quiet(), 3);
        x = Check.planted("garden hours 3 law 0 odds 0;row hard 1 hard 1;say 1 to 0 at 0;say 2 to 1 at 0;");
        due("17: the first of several", x.fickle(), 0);
        due("19: the last", x.still(), 3);
        due("20: never", x.quiet(), 0);
        x = Check.planted("garden hours 3 law 0 odds 0;row hard 4;row hard 4;slug to 0 at 1;slug to 1 at 1;");
        due("18: all are eaten", x.agree(), -1);
        due("18: one is left", Check.planted("garden hours 3 law 0 odds 0;row hard 4 hard 4;"
                + "say 2 to 1 at 0;slug to 0 at 1;").agree(), 1);
        CabbageViews none = new CabbageViews();
        due("17: no garden", none.fickle(), -2);
        due("18: no garden", none.agree(), -2);
        due("19: no garden", none.still(), -2);
        due("20: no garden", none.quiet(), -2);
    }

    // ---- promises 21, 22

    private void circles() {
        CabbageViews x = Check.planted(FIVE);
        due("21: at rest", x.settles(), 1);
        due("22: at rest", x.round(), 1);
        // With 2 said to head 1 in hour 0 the views end in 21x12, 12x21, 21x12, ..
        x.say(2, 1, 0);
        due("9: view(0, 5)", x.view(0, 5), 2);
        due("9: view(1, 5)", x.view(1, 5), 1);
        due("21: by turns", x.settles(), 2);
        due("22: by turns", x.round(), 2);
        // A view goes along a row of five for four hours, and the fifth is as the fourth.
        x = Check.planted("garden hours 1 law 0 odds 0;row hard 1 holds 16 hard 1 holds 16 hard 1 holds 16"
                + " hard 1 holds 16 hard 1 holds 16;say 1 to 0 at 0;say 2 to 4 at 7;slug to 3 at 9;");
        due("9: all hold out", x.holding(1, 1), 1);
        due("21: all holds are over, nothing more is said", x.settles(), 5);
        due("22: then nothing changes", x.round(), 1);
        due("21: no garden", new CabbageViews().settles(), -2);
        due("22: no garden", new CabbageViews().round(), -2);
    }

    // ---- IV, promises 54, 55

    private void laws() {
        CabbageViews x = Check.planted(FIVE);
        due("54: by(0)", x.by(0), 27);
        due("54: by(1)", x.by(1), 27);
        due("54: by(2)", x.by(2), 3);
        due("54: by(3)", x.by(3), 3);
        due("54: by(4)", x.by(4), -2);
        due("54: by(-1)", x.by(-1), -2);
        due("54: no garden", new CabbageViews().by(0), -2);
        due("55: law()", x.law(), 0);
        due("55: no garden", new CabbageViews().law(), -2);
        due("54: the law stays", x.count(1), 0);
        // Head 1 (hard 2) has one neighbour in its row: only law 1 counts it twice.
        x = Check.planted("garden hours 1 law 1 odds 0;row hard 1 hard 2;say 1 to 0 at 0;");
        due("IV: law 1", x.view(1, 1), 1);
        due("55: law 1 brings most", x.law(), 1);
        due("30: law 1", x.pull(1, 0), 2);
        // In another row it is not counted twice.
        x = Check.planted("garden hours 1 law 1 odds 0;row hard 1;row hard 2;say 1 to 0 at 0;");
        due("IV: law 1, another row", x.view(1, 1), 0);
        due("30: law 1, another row", x.pull(1, 0), 1);
        // By law 2 a head with a view keeps it.
        x = Check.planted("garden hours 1 law 2 odds 0;row hard 1 hard 1 hard 1;say 1 to 0 at 0;say 2 to 1 at 0;");
        due("IV: law 2 keeps", x.holding(1, 1), 1);
        due("IV: law 2 takes", x.holding(2, 1), 6);
        // By law 3 a head's own view stands against one neighbour's, or with it.
        x = Check.planted("garden hours 1 law 3 odds 0;row hard 1 hard 1;say 1 to 0 at 0;say 2 to 1 at 0;");
        due("IV: law 3", x.holding(1, 1), 1);
        due("30: law 3", x.pull(0, 0), 0);
        due("31: law 3", x.tied(0), 3);
        due("IV: law 0", x.by(0), 2);
        // More by hard at least: two of 1 against one of 2 do for hard 1 alone.
        String four = ";row hard 1 hard 1 hard 1;row hard 4 hard 1;say 1 to 0 at 0;say 1 to 2 at 0;say 2 to 4 at 0;";
        x = Check.planted("garden hours 1 law 0 odds 0" + four);
        due("IV: more by 1", x.view(1, 1), 1);
        x.rate(1, 2);
        due("IV: not more by 2", x.view(1, 1), 0);
    }

    private void holdingOut() {
        CabbageViews x = Check.planted("garden hours 4 law 0 odds 0;row hard 1 hard 1 holds 2;say 1 to 0 at 0;");
        due("IV: holds out in hour 2", x.view(1, 2), 0);
        due("IV: takes from hour 2 on", x.view(1, 3), 1);
        x = Check.planted("garden hours 4 law 0 odds 0;row hard 1 hard 1 holds 4;say 1 to 0 at 0;");
        due("IV: holds out to the last", x.view(1, 4), 0);
        x.say(2, 1, 1);
        due("III: what is said is held at once", x.view(1, 1), 2);
    }

    private void saidAndEaten() {
        CabbageViews x = Check.planted("garden hours 3 law 0 odds 0;row hard 4 hard 4;"
                + "say 1 to 0 at 0;say 2 to 0 at 0;slug to 1 at 1;say 1 to 1 at 1;say 1 to 1 at 2;");
        due("III: the later saying of one hour", x.view(0, 0), 2);
        due("III: eaten behind what is said", x.view(1, 1), 0);
        due("III: said to one that is eaten", x.view(1, 2), 0);
        due("III: acts behind what is told", x.say(1, 0, 0), 1);
        due("9: view(0, 0)", x.view(0, 0), 1);
        x = Check.planted("garden hours 2 law 0 odds 0;row hard 1 hard 1 hard 1;say 1 to 1 at 0;slug to 1 at 0;");
        due("III: an eaten one passes nothing on", x.holding(1, 2), 0);
        x = Check.planted("garden hours 2 law 0 odds 0;row hard 4;say 1 to 0 at 3;slug to 0 at 3;");
        due("III: hours behind the last", x.eaten(2), 0);
        due("III: nothing said", x.first(1), -1);
    }

    // ---- promises 23 to 29, 37, 38

    private void crowds() {
        CabbageViews x = Check.planted(FIVE);
        due("23: mind(0, 1)", x.mind(0, 1), 1);
        due("23: mind(1, 1)", x.mind(1, 1), 2);
        due("23: mind(1, 0)", x.mind(1, 0), 0);
        due("23: mind(2, 0)", x.mind(2, 0), -2);
        due("23: mind(-1, 0)", x.mind(-1, 0), -2);
        due("23: mind(0, 6)", x.mind(0, 6), -2);
        due("24: rows(1, 1)", x.rows(1, 1), 1);
        due("24: rows(2, 1)", x.rows(2, 1), 2);
        due("24: rows(1, 4)", x.rows(1, 4), 3);
        due("24: rows(0, 1)", x.rows(0, 1), -2);
        due("24: rows(1, 6)", x.rows(1, 6), -2);
        due("25: split(1)", x.split(1), 1);
        due("25: split(4)", x.split(4), 4);
        due("25: split(6)", x.split(6), -2);
        due("26: main(1)", x.main(1), 1);
        due("26: main(-1)", x.main(-1), -2);
        due("27: first(2)", x.first(2), 1);
        due("27: first(1)", x.first(1), 0);
        due("27: first(3)", x.first(3), -2);
        due("28: solid(2)", x.solid(2), 0);
        due("28: solid(3)", x.solid(3), 3);
        due("28: solid(6)", x.solid(6), -2);
        due("29: longest(1, 2)", x.longest(1, 2), 2);
        due("29: longest(0, 0)", x.longest(0, 0), 2);
        due("29: longest(0, 3)", x.longest(0, 3), 0);
        due("29: longest(2, 1)", x.longest(2, 1), 1);
        due("29: longest(3, 0)", x.longest(3, 0), -2);
        due("29: longest(0, 6)", x.longest(0, 6), -2);
        due("37: never(1)", x.never(1), 4);
        due("37: never(2)", x.never(2), 15);
        due("37: never(0)", x.never(0), -2);
        due("38: most(1)", x.most(1), 3);
        due("38: most(2)", x.most(2), 1);
        due("38: most(3)", x.most(3), -2);
        x.say(2, 0, 0);
        x.say(2, 3, 5);
        due("26: main for 2", x.main(0), 2);
        x = Check.planted("garden hours 2 law 0 odds 0;row hard 4 hard 4 hard 4;row hard 4;slug to 1 at 1;slug to 3 at 0;");
        due("29: an eaten one stands between", x.longest(0, 1), 1);
        due("29: ahead of it", x.longest(0, 0), 3);
        due("26: of as many", x.main(0), 0);
        due("27: in none", x.first(1), -1);
        due("28: all of a row are eaten", x.solid(0), 0);
        due("38: never held", x.most(1), 0);
    }

    // ---- promises 30, 31, 34 to 36

    private void neighbours() {
        CabbageViews x = Check.planted(FIVE);
        due("30: pull(1, 1)", x.pull(1, 1), 0);
        due("30: pull(3, 2)", x.pull(3, 2), 2);
        due("30: pull(2, 1)", x.pull(2, 1), 1);
        due("30: of an eaten one", x.pull(2, 5), 1);
        due("30: pull(5, 0)", x.pull(5, 0), -1000);
        due("30: pull(0, 6)", x.pull(0, 6), -1000);
        due("31: tied(1)", x.tied(1), 10);
        due("31: tied(6)", x.tied(6), -2);
        due("34: hush(0)", x.hush(0), 20);
        due("34: hush(3)", x.hush(3), 0);
        due("34: hush(-1)", x.hush(-1), -2);
        due("35: lonely(0)", x.lonely(0), 1);
        due("35: lonely(1)", x.lonely(1), 16);
        due("35: lonely(6)", x.lonely(6), -2);
        due("36: quarrels(1)", x.quarrels(1), 1);
        due("36: quarrels(0)", x.quarrels(0), 0);
        due("36: quarrels(6)", x.quarrels(6), -2);
        x.say(2, 0, 1);
        due("30: below 0", x.pull(3, 1), -2);
        due("36: head 1 with both", x.quarrels(1), 2);
        x = Check.planted("garden hours 2 law 0 odds 0;row hard 4 hard 4 hard 4;slug to 0 at 0;");
        due("31: eaten ones are not tied", x.tied(0), 6);
        due("34: eaten ones are not in the hush", x.hush(0), 6);
    }

    // ---- promises 39 to 43

    private void telling() {
        CabbageViews x = Check.planted(FIVE);
        due("39: fewest(1)", x.fewest(1), 0);
        due("40: tell(1)", x.tell(1), 0);
        due("39: fewest(2)", x.fewest(2), 1);
        due("40: tell(2)", x.tell(2), 1);
        due("39: fewest(0)", x.fewest(0), -2);
        due("40: tell(3)", x.tell(3), -2);
        due("41: brings(1, 0)", x.brings(1, 0), 4);
        due("41: brings(2, 0)", x.brings(2, 0), 0);
        due("41: brings(2, 1)", x.brings(2, 1), 4);
        due("41: brings(2, 2)", x.brings(2, 2), 2);
        due("41: brings(1, 32)", x.brings(1, 32), -2);
        due("41: brings(1, -1)", x.brings(1, -1), -2);
        due("41: brings(0, 1)", x.brings(0, 1), -2);
        due("42: loud(2)", x.loud(2), 0);
        due("42: loud(1)", x.loud(1), 0);
        due("42: loud(0)", x.loud(0), -2);
        due("43: firm(1)", x.firm(1), 4);
        due("43: firm(3)", x.firm(3), -2);
        x = Check.planted("garden hours 4 law 0 odds 0;row hard 4 hard 1 hard 4 hard 4;say 2 to 2 at 4;");
        due("39: by none", x.fewest(1), -1);
        due("40: by none", x.tell(1), -1);
        due("39: heads 0 and 3 must be told", x.fewest(2), 2);
        due("40: heads 0 and 3 must be told", x.tell(2), 9);
        due("43: those that nobody sways", x.firm(2), 9);
        due("43: head 2 is said 2 at last", x.firm(1), 13);
        due("42: head 0 brings head 1 too", x.loud(2), 0);
        due("39: asked again behind an act", x.say(1, 2, 4), 1);
        due("39: now by none", x.fewest(2), -1);
        due("40: now all hard ones but head 2", x.tell(1), 9);
        // Head 0 holds nothing when it is eaten; heads 1 and 2 each bring all that are left.
        x = Check.planted("garden hours 3 law 0 odds 0;row hard 4 hard 1 hard 1;slug to 0 at 0;");
        due("40: the least of so few", x.tell(1), 2);
        x = Check.planted("garden hours 3 law 0 odds 0;row hard 1;slug to 0 at 0;");
        due("39: all are eaten", x.fewest(1), 0);
        due("V: told and eaten in hour 0", x.brings(1, 1), 0);
        due("43: eaten ones, too", x.firm(2), 1);
        x = Check.planted("garden hours 1 law 0 odds 0;row hard 4;say 1 to 0 at 0;");
        due("V: told behind what is said", x.brings(2, 1), 1);
        due("39: no garden", new CabbageViews().fewest(1), -2);
        due("41: no garden", new CabbageViews().brings(1, 0), -2);
    }

    // ---- promise 44

    private void shares() {
        CabbageViews x = Check.planted(TWO);
        due("44: head 0 above", x.share(0, 1, 0), 1);
        due("44: head 0 below", x.share(0, 1, 1), 2);
        due("44: head 1 above", x.share(1, 2, 0), 3);
        due("44: head 1 below", x.share(1, 2, 1), 2);
        due("44: what 2", x.share(0, 1, 2), -2);
        due("44: view 0", x.share(0, 0, 0), -2);
        due("44: head 2", x.share(2, 1, 0), -2);
        x.slug(0, 2);
        due("44: one alone brings itself", x.share(1, 1, 0), 1);
        due("44: and the eaten one nothing", x.share(0, 1, 0), 0);
        due("44: 0 / 1", x.share(0, 1, 1), 1);
        x.anew();
        due("44: asked again", x.share(1, 1, 0), 3);
        String eight = "garden hours 1 law 0 odds 0;row" + " hard 4".repeat(8) + ";";
        x = Check.planted(eight);
        due("44: eight heads", x.share(7, 1, 0), 1);
        x = Check.planted(eight + "row hard 4;");
        due("44: nine heads", x.share(8, 1, 0), -3);
        due("44: none such ahead of too many", x.share(9, 1, 0), -2);
    }

    // ---- promises 45, 46

    private void samples() {
        CabbageViews x = Check.planted(FIVE);
        due("45: one of five", x.sample(1, 1, 0), 2);
        due("45: one of five", x.sample(1, 1, 1), 5);
        due("45: two of five", x.sample(1, 2, 0), 1);
        due("45: two of five", x.sample(1, 2, 1), 2);
        due("45: three of five", x.sample(1, 3, 1), 2);
        due("45: all", x.sample(1, 5, 0), 1);
        due("45: all", x.sample(1, 5, 1), 1);
        due("45: six", x.sample(1, 6, 0), -2);
        due("45: none", x.sample(1, 0, 0), -2);
        due("45: what 2", x.sample(1, 1, 2), -2);
        due("45: five where one is eaten", x.sample(3, 5, 0), -2);
        due("45: hour 6", x.sample(6, 1, 0), -2);
        due("46: sure(1)", x.sure(1), 2);
        due("46: sure(4)", x.sure(4), 1);
        due("46: sure(6)", x.sure(6), -2);
        x = Check.planted("garden hours 1 law 0 odds 0;row hard 4;say 2 to 0 at 0;slug to 0 at 1;");
        due("45: for 2", x.sample(0, 1, 0), 0);
        due("45: 0 / 1", x.sample(0, 1, 1), 1);
        due("46: by none", x.sure(0), -1);
        due("46: nobody is left", x.sure(1), -1);
        due("45: nobody is left", x.sample(1, 1, 0), -2);
    }

    // ---- promises 47 to 49

    private void contest() {
        CabbageViews x = Check.planted(TWO);
        due("47: worth()", x.worth(), -2);
        due("48: the first of several", x.opens(), 0);
        due("49: replies(0)", x.replies(0), 1);
        due("49: replies(1)", x.replies(1), 1);
        due("49: replies(2)", x.replies(2), -2);
        due("49: replies(-1)", x.replies(-1), -2);
        // Head 0 is said 1 on the last hour whoever is told what.
        x = Check.planted("garden hours 1 law 0 odds 0;row hard 4;row hard 4;say 1 to 0 at 1;");
        due("47: head 0 is lost to 2, head 1 is not", x.worth(), 0);
        due("48: the first of several", x.opens(), 0);
        due("49: the opposition takes head 1", x.replies(1), 1);
        due("49: there is no better", x.replies(0), 1);
        x.say(1, 1, 1);
        due("47: both are said 1 at last", x.worth(), 2);
        due("49: all replies are as good", x.replies(1), 0);
        x = Check.planted("garden hours 1 law 0 odds 0;row hard 4;slug to 0 at 0;");
        due("47: told, and eaten", x.worth(), 0);
        due("48: one that is eaten may be told", x.opens(), 0);
        due("47: no garden", new CabbageViews().worth(), -1000);
        due("48: no garden", new CabbageViews().opens(), -2);
    }

    // ---- promises 50 to 53

    private void see(CabbageViews x, int slot, int... numbers) {
        x.row(slot, 0, numbers.length);
        for (int i = 0; i < numbers.length; i++) x.write(slot, i, numbers[i]);
    }

    private void seen() {
        CabbageViews x = Check.planted(FIVE);
        due("50: nothing", x.whom(0, 1), -6);
        due("51: nothing", x.ask(0, 1), -6);
        due("52: nothing", x.leaves(0, 1), -6);
        due("53: nothing", x.laws(0), -6);
        due("50: view 0 ahead of nothing", x.whom(0, 0), -2);
        due("51: view 3 ahead of nothing", x.ask(0, 3), -2);
        due("52: slot 4", x.leaves(4, 1), -2);
        due("53: slot -1", x.laws(-1), -2);
        see(x, 0, 2, 1, 1);
        due("50: head 2 held 1 in hour 1", x.whom(0, 1), 4);
        due("51: there is one alone", x.ask(0, 1), -1);
        due("52: it is left", x.leaves(0, 1), 1);
        due("53: by no law", x.laws(0), 0);
        see(x, 0, 2, 2, 1);
        due("53: head 2 held 1 in hour 2", x.laws(0), 2);
        see(x, 0, 0, 0, 2);
        due("50: head 0 held 2", x.whom(0, 2), 1);
        due("50: never by 1", x.whom(0, 1), 0);
        due("51: none", x.ask(0, 1), -1);
        due("52: none", x.leaves(0, 1), 0);
        see(x, 0, 0, 0, 3);
        due("50: no such view", x.whom(0, 1), -2);
        due("53: no such view", x.laws(0), -2);
        see(x, 0, 5, 0, 0);
        due("50: no such head", x.whom(0, 1), -2);
        see(x, 0, 0, 6, 0);
        due("51: no such hour", x.ask(0, 1), -2);
        see(x, 0, 0, 0, -1);
        due("52: a view below 0", x.leaves(0, 1), -2);
        see(x, 0, 0, 0, 1, 0);
        due("50: not three each", x.whom(0, 1), -2);
        due("53: not three each", x.laws(0), -2);
        see(x, 0);
        due("50: nothing seen", x.whom(0, 1), 31);
        due("53: nothing seen", x.laws(0), 15);
        due("50: no garden ahead of nothing", new CabbageViews().whom(0, 1), -2);
        due("53: no garden ahead of nothing", new CabbageViews().laws(0), -2);
        // Three hard heads: to know head h in hour 0 tells whether it was told, and leaves two.
        x = Check.planted("garden hours 2 law 0 odds 0;row hard 4 hard 4 hard 4;");
        see(x, 3);
        due("51: the first of several", x.ask(3, 1), 0);
        due("52: two are left at worst", x.leaves(3, 1), 2);
        see(x, 3, 0, 2, 0);
        due("50: not head 0", x.whom(3, 2), 6);
        due("51: head 1 in hour 0", x.ask(3, 2), 100);
        due("52: one is left", x.leaves(3, 2), 1);
        // Head 2 takes from heads 1 and 3 in the last hour: then it tells most.
        x = Check.planted("garden hours 16 law 0 odds 0;row hard 4 hard 4 hard 1 holds 15 hard 4 hard 4;");
        see(x, 0);
        due("51: head 2 in hour 16", x.ask(0, 1), 216);
        due("52: three are left at worst", x.leaves(0, 1), 3);
    }

    // ---- promises 56, 57

    private void games() {
        CabbageViews x = Check.planted(FIVE);
        due("57: gets(0, 1, 0, 0)", x.gets(0, 1, 0, 0), 10);
        due("57: gets(0, 1, 1, 0)", x.gets(0, 1, 1, 0), 7);
        due("57: gets(1, 0, 0, 0)", x.gets(1, 0, 0, 0), 8);
        due("57: gets(1, 0, 1, 0)", x.gets(1, 0, 1, 0), -3);
        due("56: rests(0, 1)", x.rests(0, 1), 1);
        due("56: one twice", x.rests(0, 0), -2);
        due("56: no such head", x.rests(0, 5), -2);
        due("57: one twice", x.gets(2, 2, 0, 0), -1000);
        due("57: no such head", x.gets(-1, 2, 0, 0), -1000);
        due("57: no such choice", x.gets(0, 1, 2, 0), -1000);
        due("57: no such choice", x.gets(0, 1, 0, -1), -1000);
        // Two heads that swap their views get nothing; where one is harder, both end with its view.
        x = Check.planted("garden hours 4 law 0 odds 0;row hard 1 hard 1;say 1 to 0 at 0;say 2 to 1 at 0;");
        due("57: swapped", x.gets(0, 1, 0, 0), 0);
        due("57: the harder one", x.gets(0, 1, 1, 0), 5);
        due("57: the other one", x.gets(1, 0, 0, 1), 6);
        due("57: both harder", x.gets(1, 0, 1, 1), 5);
        due("56: one of the two", x.rests(0, 1), 6);
        due("6: hard stays", x.head(0, 0), 1);
        // Hard 4 may be 1 harder, too: in a cross of four of 1 it then keeps its own view.
        x = Check.planted("garden hours 2 law 0 odds 0;row hard 4 hard 4;row hard 4 hard 4 hard 4;row hard 4 hard 4;"
                + "say 2 to 3 at 0;say 1 to 1 at 0;say 1 to 2 at 0;say 1 to 4 at 0;say 1 to 6 at 0;");
        due("57: hard 4", x.gets(3, 0, 0, 0), 2);
        due("57: harder than 4", x.gets(3, 0, 1, 0), 1);
        due("IV: hard 4 with four neighbours", x.view(3, 1), 1);
    }

    // ---- promises 58, 59

    private void wetHours() {
        CabbageViews x = Check.planted("garden hours 9 law 0 odds 3;row hard 1 hard 1;say 1 to 0 at 0;slug to 0 at 3;");
        due("58: dry", x.chance(1, 1, 0, 0), 7);
        due("58: of ten", x.chance(1, 1, 0, 1), 10);
        due("58: wet", x.chance(1, 0, 0, 0), 3);
        due("58: not both wet", x.chance(1, 1, 1, 0), 91);
        due("58: of a hundred", x.chance(1, 1, 1, 1), 100);
        due("58: sure", x.chance(0, 1, 0, 0), 1);
        due("58: sure", x.chance(0, 1, 0, 1), 1);
        due("58: never", x.chance(1, 2, 0, 0), 0);
        due("58: 0 / 1", x.chance(1, 2, 0, 1), 1);
        due("58: eaten has 0", x.chance(0, 0, 2, 0), 1);
        due("58: hour 7", x.chance(1, 1, 7, 0), 973);
        due("58: hour 7", x.chance(1, 1, 7, 1), 1000);
        due("58: hour 8", x.chance(1, 1, 8, 0), -2);
        due("58: hour -1", x.chance(1, 1, -1, 0), -2);
        due("58: view 3", x.chance(1, 3, 0, 0), -2);
        due("58: head 2", x.chance(2, 1, 0, 0), -2);
        due("58: what 2", x.chance(1, 1, 0, 2), -2);
        due("59: mean above", x.mean(0, 0), 17);
        due("59: mean below", x.mean(0, 1), 10);
        due("59: mean above", x.mean(1, 0), 191);
        due("59: what -1", x.mean(0, -1), -2);
        due("59: hour 8", x.mean(8, 0), -2);
        x = Check.planted("garden hours 2 law 0 odds 10;row hard 1 hard 1;say 1 to 0 at 0;");
        due("58: always wet", x.chance(1, 1, 1, 0), 0);
        due("58: the last hour", x.chance(1, 1, 2, 0), -2);
        due("X: else none is wet", x.view(1, 1), 1);
        due("59: no garden", new CabbageViews().mean(0, 0), -2);
    }

    // ---- promises 60 to 63

    private void acts() {
        CabbageViews x = Check.planted(FIVE);
        // Head 0 is won back by both its neighbours in hour 4.
        due("60: say(2, 0, 3)", x.say(2, 0, 3), 0);
        due("60: what is said", x.view(0, 3), 2);
        due("60: the last hour, too", x.say(2, 3, 5), 1);
        due("60: hour 6", x.say(2, 3, 6), -2);
        due("60: hour -1", x.say(2, 3, -1), -2);
        due("60: view 0", x.say(0, 3, 1), -2);
        due("60: head 5", x.say(1, 5, 1), -2);
        due("61: slug(4, 2)", x.slug(4, 2), 4 + 16);
        due("61: the last hour, too", x.slug(0, 5), 4 + 16 + 1);
        due("61: ahead of it", x.eaten(4), 4 + 16);
        due("61: head 5", x.slug(5, 0), -2);
        due("61: hour 6", x.slug(0, 6), -2);
        due("62: undo()", x.undo(), 3);
        due("62: taken back", x.eaten(5), 4 + 16);
        due("63: anew()", x.anew(), 3);
        due("63: all taken back", x.eaten(5), 4);
        due("63: as told", x.agree(), 3);
        due("63: none", x.anew(), 0);
        due("62: none", x.undo(), -5);
        for (int i = 0; i < 30; i++) due("60: act " + i, x.say(1, 0, 0), 4);
        due("60: a 31st", x.say(1, 0, 0), -5);
        due("61: a 31st", x.slug(0, 0), -5);
        due("60: none such ahead of 30", x.say(1, 5, 0), -2);
        due("61: none such ahead of 30", x.slug(-1, 0), -2);
        due("62: undo()", x.undo(), 29);
        due("61: a 30th", x.slug(0, 5), 5);
        mostEvents();
        CabbageViews none = new CabbageViews();
        due("60: no garden", none.say(1, 0, 0), -2);
        due("61: no garden", none.slug(0, 0), -2);
        due("62: no garden", none.undo(), -2);
        due("63: no garden", none.anew(), -2);
        x = Check.planted("garden hours 16 law 0 odds 0;row hard 1 hard 1;");
        due("60: hour 16", x.say(2, 1, 16), 1);
        due("61: hour 16", x.slug(1, 16), 2);
        due("9: eaten behind what is said", x.view(1, 16), 0);
    }

    /** Eight sayings, four slugs and thirty acts at once. */
    private void mostEvents() {
        CabbageViews x = Check.planted("garden hours 3 law 2 odds 0;row hard 4 hard 4 hard 4 hard 4 hard 4 hard 4;"
                + "say 1 to 0 at 0;".repeat(8) + "slug to 1 at 0;slug to 2 at 1;slug to 3 at 2;slug to 4 at 3;");
        for (int i = 0; i < 29; i++) due("60: act " + i, x.say(1 + i % 2, 0, 1), 1);
        due("60: the thirtieth", x.say(2, 5, 2), 1);
        due("60: the last of one hour stands", x.view(0, 3), 1);
        due("60: and the thirtieth, too", x.view(5, 3), 2);
        due("61: the slugs told stand", x.eaten(3), 30);
        x.image(0);
        due("63: all", x.anew(), 30);
        due("63: as told", x.holding(2, 3), 0);
        x.back(0);
        due("69: all of them are back", x.holding(2, 3), 32);
    }

    // ---- promises 64, 65

    private void summers() {
        // From seed 1 the draws are 16838, 5758, 10113, 17515, 31051, 5627, 23010, 7419 modulo 10.
        CabbageViews x = Check.planted("garden hours 8 law 0 odds 5;row hard 1 hard 1 hard 1 hard 1 hard 1 hard 1;"
                + "say 1 to 0 at 0;");
        due("64: wet hours", x.drawn(1, 0), 4 + 16 + 64);
        due("64: five dry hours", x.drawn(1, 1), 63);
        due("64: nobody holds 2", x.drawn(1, 2), 0);
        // From seed 0 the first draws are 0, 21468, 9988, 22117, 3498, 16927, 16045, 19741.
        due("64: seed 0", x.drawn(0, 0), 1 + 128);
        due("64: what 3", x.drawn(1, 3), -2);
        due("64: what -1", x.drawn(1, -1), -2);
        due("64: seed -1", x.drawn(-1, 0), -2);
        due("64: seed too large", x.drawn(2000000001, 0), -2);
        due("64: the largest seed", Math.min(0, x.drawn(2000000000, 0)), 0);
        due("65: seed 1 alone", x.luck(1, 1, 5, 1), 1);
        due("65: no view", x.luck(1, 1, 5, 0), 0);
        due("65: 21", x.luck(1, 21, 0, 1), -2);
        due("65: 0", x.luck(1, 0, 0, 1), -2);
        due("65: view 3", x.luck(1, 1, 0, 3), -2);
        due("65: head 6", x.luck(1, 1, 6, 1), -2);
        due("65: seed -1", x.luck(-1, 1, 0, 1), -2);
        due("65: all hold their own", x.luck(7, 20, 0, 1), 20);
        int lucky = 0;
        for (int seed = 100; seed < 120; seed++) lucky += x.drawn(seed, 1) >> 5 & 1;
        due("65: as the summers one by one", x.luck(100, 20, 5, 1), lucky);
        x.slug(5, 8);
        due("65: eaten has 0", x.luck(100, 20, 5, 0), 20);
        due("64: no garden", new CabbageViews().drawn(1, 0), -2);
        due("65: no garden", new CabbageViews().luck(1, 1, 0, 0), -2);
        x = Check.planted("garden hours 16 law 0 odds 10;row hard 1 hard 1;say 2 to 0 at 0;");
        due("64: all wet", x.drawn(9, 0), 65535);
        due("64: nothing is passed on", x.drawn(9, 2), 1);
    }

    // ---- promises 66 to 69

    private void rating() {
        CabbageViews x = Check.planted(FIVE);
        due("66: rate(2, 1)", x.rate(2, 1), 2);
        due("66: head(2, 0)", x.head(2, 0), 1);
        due("66: head 2 takes 1 then", x.view(2, 2), 1);
        due("66: n 0", x.rate(2, 0), -2);
        due("66: n 5", x.rate(2, 5), -2);
        due("66: head 5", x.rate(5, 1), -2);
        x.say(1, 0, 0);
        due("66: there is an act", x.rate(2, 1), -5);
        due("66: none such ahead of acts", x.rate(5, 1), -2);
        x.undo();
        due("66: it is taken back", x.rate(2, 4), 1);
        due("66: head 2 takes none then", x.when(2, 1), -1);
    }

    private void counts() {
        CabbageViews x = Check.planted(FIVE);
        x.say(1, 0, 0);
        x.feed(0, 0, 0, 0, 0);
        x.row(2, 0, 0);
        x.row(3, 3, 60);
        int[] counts = {5, 0, 3, 2, 5, 2, 1, 1, 6, 20, 2};
        for (int what = 0; what < counts.length; what++) {
            due("67: count(" + what + ")", x.count(what), counts[what]);
        }
        due("67: count(11)", x.count(11), -1);
        due("67: count(-1)", x.count(-1), -1);
        CabbageViews none = new CabbageViews();
        for (int what = 0; what <= 10; what++) due("67: no garden, count(" + what + ")", none.count(what), 0);
    }

    private void images() {
        CabbageViews x = new CabbageViews();
        due("69: nothing", x.back(0), -6);
        due("69: no such image", x.back(3), -2);
        due("68: no such image", x.image(-1), -2);
        due("68: no such image", x.image(3), -2);
        due("68: no garden is kept, too", x.image(2), 0);
        Check.put(x, FIVE);
        x.garden();
        x.rate(2, 1);
        x.say(1, 3, 0);
        x.say(2, 3, 5);
        due("68: image(0)", x.image(0), 0);
        x.anew();
        x.rate(2, 3);
        due("68: image(1)", x.image(1), 0);
        Check.put(x, TWO);
        x.garden();
        due("69: back(0)", x.back(0), 0);
        due("69: its lines", x.count(8), 6);
        due("69: its acts", x.count(7), 2);
        due("69: its hard", x.head(2, 0), 1);
        due("69: its views", x.view(3, 5), 2);
        due("69: its near", x.near(1), 21);
        due("69: acts go on", x.undo(), 1);
        due("69: back(1)", x.back(1), 0);
        due("69: its acts", x.count(7), 0);
        due("69: its hard", x.head(2, 0), 3);
        due("69: back(0) once more", x.back(0), 0);
        due("69: it has both acts still", x.count(7), 2);
        due("69: back(2)", x.back(2), 0);
        due("69: no garden", x.agree(), -2);
        due("69: no garden", x.count(4), 0);
    }

    // ---- promises 70 to 72

    private void slots() {
        CabbageViews x = new CabbageViews();
        due("70: slot 4", x.row(4, 0, 1), -2);
        due("70: slot -1", x.row(-1, 0, 1), -2);
        due("70: width 4", x.row(0, 4, 1), -2);
        due("70: width -1", x.row(0, -1, 1), -2);
        due("70: 61", x.row(0, 0, 61), -2);
        due("70: -1", x.row(0, 0, -1), -3);
        due("70: -1 of no such slot", x.row(4, 0, -1), -2);
        due("71: slot 4", x.write(4, 0, 0), -2);
        due("71: nothing", x.write(0, 0, 0), -6);
        due("70: 60", x.row(0, 3, 60), 0);
        due("71: 59", x.write(0, 59, Long.MIN_VALUE), 0);
        due("71: 60", x.write(0, 60, 1), -7);
        due("71: -1", x.write(0, -1, 1), -7);
        due("70: below 0", x.row(0, 0, LEAST), -3);
        due("70: the slot stays", x.write(0, 59, 1), 0);
        due("72: nothing", x.paste(0, 0, 1, 0, 1), -6);
        due("72: nothing", x.paste(1, 0, 0, 0, 1), -6);
        due("72: slot 4", x.paste(0, 0, 4, 0, 1), -2);
        due("72: slot -1", x.paste(-1, 0, 0, 0, 1), -2);
        x.row(1, 2, 3);
        due("72: not of one width", x.paste(0, 0, 1, 0, 1), -8);
        due("72: not of one width ahead of beyond", x.paste(0, -1, 1, 0, 1), -8);
        x.row(2, 2, 5);
        due("72: all", x.paste(1, 0, 2, 2, 3), 0);
        due("72: beyond the other", x.paste(1, 0, 2, 3, 3), -7);
        due("72: beyond its own", x.paste(1, 1, 2, 0, 3), -7);
        due("72: below 0", x.paste(1, -1, 2, 0, 1), -7);
        due("72: below 0", x.paste(1, 0, 2, -1, 1), -7);
        due("72: n below 0", x.paste(1, 0, 2, 0, -1), -7);
        due("72: large", x.paste(1, MOST, 2, MOST, MOST), -7);
        due("72: large", x.paste(1, 1, 2, 1, MOST), -7);
        due("72: none at the end", x.paste(1, 3, 2, 5, 0), 0);
        numbersInRows();
    }

    /** There is no way to read a row but by what was seen. */
    private void numbersInRows() {
        CabbageViews x = Check.planted(FIVE);
        for (int width = 0; width < 4; width++) {
            x.row(0, width, 3);
            due("70: all 0", x.laws(0), 0);
            x.write(0, 2, 1);
            due("71: head 0 holds 1 in hour 0", x.laws(0), 15);
            if (width < 3) {
                x.write(0, 2, 1 + (1L << (8 << width)));
                due("71: cut", x.laws(0), 15);
            }
            x.write(0, 2, 1 + (1L << (width == 0 ? 7 : (8 << width) - 1)));
            due("71: not cut", x.laws(0), -2);
            x.write(0, 0, 9);
            x.write(0, 1, 9);
            x.row(0, width, 3);
            due("70: in place of another", x.laws(0), 0);
        }
        // 0 0 1 / 4 1 2, pasted one on within its own row: 0 0 0 1 4 1.
        x.row(1, 0, 6);
        int[] numbers = {0, 0, 1, 4, 1, 2};
        for (int i = 0; i < 6; i++) x.write(1, i, numbers[i]);
        due("53: head 4 holds 2 in hour 1", x.laws(1), 15);
        due("72: within its own row", x.paste(1, 0, 1, 1, 5), 0);
        due("72: 1 4 1 tells of head 1", x.laws(1), 0);
        x.write(1, 2, 1);
        due("72: as they were", x.laws(1), 15);
        x.write(1, 5, 0);
        due("72: head 1 holds 1 in hour 4", x.laws(1), 0);
        x.row(2, 0, 3);
        due("72: to another one", x.paste(1, 0, 2, 0, 3), 0);
        due("72: they came", x.laws(2), 15);
        due("72: nothing happens", x.paste(1, 4, 2, 0, 3), -7);
        due("72: they stay", x.laws(2), 15);
    }

    // ---- a garden without heads

    private void emptyGarden() {
        CabbageViews x = Check.planted(BARE);
        due("bare: fickle()", x.fickle(), -1);
        due("bare: agree()", x.agree(), -1);
        due("bare: still()", x.still(), 0);
        due("bare: quiet()", x.quiet(), 3);
        due("bare: settles()", x.settles(), 1);
        due("bare: round()", x.round(), 1);
        due("bare: holding(0, 3)", x.holding(0, 3), 0);
        due("bare: eaten(0)", x.eaten(0), 0);
        due("bare: main(0)", x.main(0), 0);
        due("bare: most(1)", x.most(1), 0);
        due("bare: fewest(1)", x.fewest(1), 0);
        due("bare: tell(1)", x.tell(1), 0);
        due("bare: brings(1, 0)", x.brings(1, 0), 0);
        due("bare: brings(1, 1)", x.brings(1, 1), -2);
        due("bare: loud(1)", x.loud(1), -1);
        due("bare: firm(1)", x.firm(1), 0);
        due("bare: share(0, 1, 0)", x.share(0, 1, 0), -2);
        due("bare: sure(0)", x.sure(0), -1);
        due("bare: worth()", x.worth(), -1000);
        due("bare: opens()", x.opens(), -1);
        due("bare: law()", x.law(), 0);
        due("bare: mean(0, 1)", x.mean(0, 1), 1);
        due("bare: undo()", x.undo(), -5);
        x.row(0, 0, 0);
        due("bare: whom(0, 1)", x.whom(0, 1), 0);
        due("bare: ask(0, 1)", x.ask(0, 1), -1);
        due("bare: laws(0)", x.laws(0), 15);
    }
}
