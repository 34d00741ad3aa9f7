/** Boundary cases of promises 1 to 8: the tape, the text and its faults, heads and rows. */
public final class TextBoundaryTest {
    private static final String GARDEN = "garden hours 9 law 0 odds 0;";
    private static final String TWO_HEADS = GARDEN + "row hard 1 hard 1;";
    private static final String ROW = "row hard 1;";
    private static final String SAY = "say 1 to 0 at 0;";
    private static final String SLUG = "slug to 0 at 0;";

    private final Bounds bounds = new Bounds();

    private TextBoundaryTest() throws Exception {
    }

    public static void main(String[] args) throws Exception {
        TextBoundaryTest test = new TextBoundaryTest();
        test.newObject();
        test.feeding();
        test.ending();
        test.readingNothing();
        test.readingAnother();
        test.nothingIsLeftOfAnother();
        test.readingFaults();
        test.tellingFaults();
        test.signs();
        test.longestTokens();
        test.otherWords();
        test.boundsOfTheGardenLine();
        test.boundsOfRows();
        test.boundsOfSayingsAndSlugs();
        test.placesOfLines();
        test.linesThatStopShort();
        test.firstFault();
        test.oneTooMany();
        test.heads();
        test.neighbours();
        test.rows();
        test.bounds.finish(1, 8);
    }

    private void due(String call, long got, long want) {
        bounds.due(call, got, want);
    }

    private static CabbageViews plant(String text) {
        return Check.planted(text);
    }

    /** A text without a fault is so many lines; else it has a fault at a place. */
    private void sound(String text, int lines) {
        CabbageViews x = new CabbageViews();
        Check.put(x, text);
        due("garden() of <" + text + ">", x.garden(), lines);
        due("fault(0) of <" + text + ">", x.fault(0), 0);
        due("fault(1) of <" + text + ">", x.fault(1), -1);
    }

    private void faulty(String text, int fault, int place) {
        CabbageViews x = new CabbageViews();
        Check.put(x, text);
        due("garden() of <" + text + ">", x.garden(), -4);
        due("fault(0) of <" + text + ">", x.fault(0), fault);
        due("fault(1) of <" + text + ">", x.fault(1), place);
        due("count(8) of <" + text + ">", x.count(8), 0);
        due("count(9) of <" + text + ">", x.count(9), text.length());
    }

    // ---- promise 1

    private void newObject() {
        bounds.promise(1, "No GARDEN.");
        CabbageViews x = new CabbageViews();
        for (int what = 0; what <= 10; what++) due("count(" + what + ")", x.count(what), 0);
        due("agree()", x.agree(), -2);
        due("undo()", x.undo(), -2);
        due("worth()", x.worth(), -1000);
        due("heads(0)", x.heads(0), -2);
        due("view(0, 0)", x.view(0, 0), -2);
        CabbageViews other = plant(TWO_HEADS);
        other.image(0);
        other.row(0, 0, 1);
        due("count(4) beside another object", x.count(4), 0);
        due("back(0) beside another object", x.back(0), -6);
        due("write(0, 0, 0) beside another object", x.write(0, 0, 0), -6);
        due("new count(8) beside another object", new CabbageViews().count(8), 0);
    }

    // ---- promise 2

    private void feeding() {
        bounds.promise(2, "Twenty bytes come behind the TAPE, four of each number, the highest first: how many it has");
        for (int place = 0; place < 20; place++) {
            int[] five = {0x20202020, 0x20202020, 0x20202020, 0x20202020, 0x20202020};
            int shift = 24 - 8 * (place % 4);
            five[place / 4] = five[place / 4] & ~(255 << shift) | 200 << shift;
            CabbageViews x = new CabbageViews();
            due("feed to an empty tape", x.feed(five[0], five[1], five[2], five[3], five[4]), 20);
            x.garden();
            due("a strange byte is found at its place", x.fault(1), place);
            due("feed behind it", x.feed(0, 0, 0, 0, 0), 40);
            x.garden();
            due("the strange byte stays at its place", x.fault(1), place);
        }
        bounds.promise(2, "NONE, and none come, if it would have more than 600");
        CabbageViews x = new CabbageViews();
        Check.put(x, GARDEN + " ".repeat(572));
        due("count(9), full", x.count(9), 600);
        due("feed to a full tape", x.feed(0x41414141, -1, 0, 0, 0), -1);
        due("count(9), still full", x.count(9), 600);
        due("end(581)", x.end(581), 581);
        due("feed that would make 601", x.feed(0x41414141, -1, 0, 0, 0), -1);
        due("count(9), as it was", x.count(9), 581);
        due("end(580)", x.end(580), 580);
        due("feed that makes 600", x.feed(0x20202020, 0x20202020, 0x20202020, 0x20202020, 0x20202020), 600);
        due("none of those refused came", x.garden(), 1);
        due("feed behind garden()", x.feed(0, 0, 0, 0, 0), 20);
    }

    // ---- promise 3

    private void ending() {
        bounds.promise(3, "The TAPE has its first n bytes alone: n");
        CabbageViews x = new CabbageViews();
        due("end(0) of an empty tape", x.end(0), 0);
        Check.put(x, GARDEN + "#");
        due("end(29) of 29 bytes", x.end(29), 29);
        x.garden();
        due("byte 28 is there still", x.fault(1), 28);
        due("end(28)", x.end(28), 28);
        due("count(9)", x.count(9), 28);
        due("garden() of the first 28", x.garden(), 1);
        bounds.promise(3, "NONE, and nothing happens, if it has not so many, or n is below 0");
        due("end(1) of an empty tape", x.end(1), -1);
        x.feed(0, 0, 0, 0, 0);
        bounds.refusedOutside("end", x::end, 0, 20, -1);
        due("count(9) behind those refused", x.count(9), 20);
        due("end(5)", x.end(5), 5);
        due("end(6): those bytes are gone", x.end(6), -1);
        due("count(9)", x.count(9), 5);
        due("end(0)", x.end(0), 0);
        due("count(9)", x.count(9), 0);
    }

    // ---- promise 4

    private void readingNothing() {
        bounds.promise(4, "(0: there is none then)");
        sound("", 0);
        sound(" ", 0);
        sound("\n \n", 0);
        sound(" ".repeat(600), 0);
        CabbageViews x = plant(TWO_HEADS);
        x.say(1, 0, 0);
        due("garden() of an empty tape", x.garden(), 0);
        for (int what = 0; what <= 9; what++) due("count(" + what + ") then", x.count(what), 0);
        due("still() then", x.still(), -2);
        due("head(0, 0) then", x.head(0, 0), -2);
        due("undo() then", x.undo(), -2);
    }

    private void readingAnother() {
        bounds.promise(4, "The TAPE (empty then) is the GARDEN (in place of another), nothing done: how many LINES");
        CabbageViews x = plant(TWO_HEADS + "say 2 to 1 at 0;" + "slug to 0 at 3;");
        x.say(1, 0, 0);
        x.slug(1, 2);
        x.image(1);
        x.row(2, 0, 3);
        Check.put(x, GARDEN + "row hard 4 holds 3;");
        due("garden()", x.garden(), 2);
        int[] counts = {9, 0, 0, 1, 1, 0, 0, 0, 2, 0, 1};
        for (int what = 0; what <= 10; what++) due("count(" + what + ")", x.count(what), counts[what]);
        due("eaten(9): nobody", x.eaten(9), 0);
        due("holding(0, 9)", x.holding(0, 9), 1);
        due("near(0): nobody", x.near(0), 0);
        due("garden() once more: the tape is empty", x.garden(), 0);
        due("images stay", x.back(1), 0);
        due("count(7) of the image", x.count(7), 2);
        Check.put(x, GARDEN);
        due("garden() of one line", x.garden(), 1);
        Check.put(x, GARDEN + ROW.repeat(4) + SAY.repeat(8) + SLUG.repeat(4));
        due("garden() of most lines", x.garden(), 17);
        due("count(8)", x.count(8), 17);
    }

    /** An object answers of a garden as a new one does, whatever it had ahead of it. */
    private void nothingIsLeftOfAnother() {
        bounds.promise(4, "(in place of another)");
        String[] texts = {
            "garden hours 16 law 1 odds 10;" + "row hard 1 hard 1 hard 1;".repeat(4) + "say 1 to 0 at 15;slug to 1 at 0;",
            "garden hours 9 law 1 odds 0;row hard 2 holds 2;row hard 1 hard 2 holds 3 hard 1;say 1 to 2 at 0;",
            "garden hours 3 law 1 odds 5;row hard 1 holds 1 hard 2 holds 2;row hard 2 hard 3;say 2 to 3 at 1;say 1 to 0 at 0;",
            GARDEN};
        for (String ahead : texts) {
            for (String text : texts) {
                CabbageViews x = plant(ahead);
                for (int h = 0; h < 3; h++) {
                    x.say(2, h, x.count(0));
                    x.slug(h, x.count(0));
                }
                Check.put(x, text);
                x.garden();
                same(text + " behind " + ahead, x, plant(text));
            }
        }
    }

    private void same(String told, CabbageViews x, CabbageViews fresh) {
        for (int what = 0; what <= 10; what++) due("count(" + what + ") of " + told, x.count(what), fresh.count(what));
        for (int r = 0; r <= 4; r++) due("heads(" + r + ") of " + told, x.heads(r), fresh.heads(r));
        for (int h = 0; h <= 12; h++) {
            due("near(" + h + ") of " + told, x.near(h), fresh.near(h));
            for (int what = 0; what < 4; what++) due("head(" + h + ", ..) of " + told, x.head(h, what), fresh.head(h, what));
        }
        for (int t = 0; t <= 17; t++) {
            for (int v = 0; v <= 2; v++) due("holding(" + v + ", " + t + ") of " + told, x.holding(v, t), fresh.holding(v, t));
            due("eaten(" + t + ") of " + told, x.eaten(t), fresh.eaten(t));
        }
        due("tell(1) of " + told, x.tell(1), fresh.tell(1));
        due("worth() of " + told, x.worth(), fresh.worth());
        due("share(0, 1, 0) of " + told, x.share(0, 1, 0), fresh.share(0, 1, 0));
    }

    private void readingFaults() {
        bounds.promise(4, "-4: a FAULT (all stays)");
        CabbageViews x = plant(TWO_HEADS + SAY);
        x.rate(1, 3);
        x.say(2, 1, 1);
        x.image(0);
        x.row(1, 2, 3);
        String text = "garden hours 1 law 3 odds 10;row hard 4;slug to 0 at 0;say 1 to 1 at 0;";
        Check.put(x, text);
        due("garden()", x.garden(), -4);
        int[] counts = {9, 0, 0, 1, 2, 1, 0, 1, 3, text.length(), 1};
        for (int what = 0; what <= 10; what++) due("count(" + what + ")", x.count(what), counts[what]);
        due("hard stays", x.head(1, 0), 3);
        due("near stays", x.near(1), 1);
        due("views stay", x.holding(2, 1), 2);
        due("nobody is eaten", x.eaten(9), 0);
        due("garden() again: the same fault", x.garden(), -4);
        x.end(text.length() - 16);
        due("the tape stays: without its last line it is a garden", x.garden(), 3);
    }

    // ---- promise 5

    private void tellingFaults() {
        bounds.promise(5, "NONE for another what, and ahead of any (what 1)");
        CabbageViews x = new CabbageViews();
        due("fault(0) ahead of any", x.fault(0), 0);
        due("fault(1) ahead of any", x.fault(1), -1);
        bounds.refusedOutside("fault ahead of any", x::fault, 0, 1, -1);
        Check.put(x, "garden hours 17");
        due("fault(0): the tape is not read yet", x.fault(0), 0);
        x.garden();
        bounds.refusedOutside("fault behind a fault", x::fault, 0, 1, -1);
        bounds.promise(5, "Of the latest garden(), what 0: its FAULT, 0 without, 1: its place (NONE without)");
        due("fault(0)", x.fault(0), 2);
        due("fault(1)", x.fault(1), 13);
        x.end(0);
        due("fault(0): that one is still the latest", x.fault(0), 2);
        Check.put(x, "#");
        x.garden();
        due("fault(0) of the next", x.fault(0), 1);
        due("fault(1) at the first byte", x.fault(1), 0);
        x.end(0);
        x.garden();
        due("fault(0) without", x.fault(0), 0);
        due("fault(1) without", x.fault(1), -1);
    }

    // ---- promise 5: tokens and faults

    private void signs() {
        bounds.term(5, "TOKENS, blanks (32, 10) aside, the longest: words (a .. z), numbers (digits), the sign ;");
        for (int sign = 0; sign < 256; sign++) {
            char c = (char) sign;
            boolean blank = sign == 32 || sign == 10;
            if (blank) {
                sound(GARDEN + c + ROW + c, 2);
            } else {
                faulty(GARDEN + c, 1, GARDEN.length());
            }
        }
        for (int sign : new int[] {0, 9, 11, 13, 31, 33, 47, 58, 60, 96, 123, 127, 128, 155, 177, 225, 255}) {
            char c = (char) sign;
            faulty("garden" + c + "hours 9 law 0 odds 0;", 1, 6);
            faulty("garden hours 9" + c + "law 0 odds 0;", 1, 14);
        }
        sound("garden\nhours\n\n9 law 0\nodds 0\n;\n", 1);
    }

    private void longestTokens() {
        bounds.term(5, "the longest");
        sound("garden hours9law0odds0;row hard1holds2hard3;say1to0at5;slug to1at2;", 4);
        faulty("gardenhours 9 law 0 odds 0;", 1, 0);
        faulty("gar den hours 9 law 0 odds 0;", 1, 0);
        faulty("garden hours 1 6 law 0 odds 0;", 1, 15);
        faulty(GARDEN + "rowhard 1;", 1, 28);
        faulty(GARDEN + "row hardholds 1;", 1, 32);
        for (char letter : new char[] {'a', 'm', 'z'}) {
            faulty("garden" + letter + " hours 9 law 0 odds 0;", 1, 0);
            faulty(letter + "garden hours 9 law 0 odds 0;", 1, 0);
            faulty("garden hours " + letter + "9 law 0 odds 0;", 1, 13);
            faulty("garden hours 9" + letter + " law 0 odds 0;", 1, 14);
        }
        for (char digit : new char[] {'0', '5', '9'}) {
            faulty("garden" + digit + "hours 9 law 0 odds 0;", 1, 6);
            faulty("garden hours 9" + digit + " law 0 odds 0;", 2, 13);
        }
        sound("garden hours 000000000000000000009 law 00 odds 00000;", 1);
        faulty("garden hours 4294967305 law 0 odds 0;", 2, 13);
        faulty("garden hours 18446744073709551625 law 0 odds 0;", 2, 13);
        faulty("garden hours " + "9".repeat(587), 2, 13);
    }

    /** Each word with one letter put in place of another is none that can stand there. */
    private void otherWords() {
        bounds.term(5, "1 a TOKEN that is none, or can't stand there");
        String text = GARDEN + "row hard 1 holds 1;say 1 to 0 at 0;slug to 0 at 0;";
        sound(text, 4);
        int start = 0;
        for (int i = 0; i < text.length(); i++) {
            boolean letter = text.charAt(i) >= 'a' && text.charAt(i) <= 'z';
            if (letter && (i == 0 || text.charAt(i - 1) == ' ' || text.charAt(i - 1) == ';')) start = i;
            if (letter) {
                char other = text.charAt(i) == 'z' ? 'a' : 'z';
                faulty(text.substring(0, i) + other + text.substring(i + 1), 1, start);
            }
        }
    }

    private void boundsOfTheGardenLine() {
        bounds.term(5, "garden is the first LINE and no other: hours 1 .. 16, law 0 .. 3, odds 0 .. 10");
        for (int hours = 0; hours <= 40; hours++) {
            String text = "garden hours " + hours + " law 3 odds 10;";
            if (hours >= 1 && hours <= 16) sound(text, 1);
            else faulty(text, 2, 13);
        }
        for (int law = 0; law <= 12; law++) {
            String text = "garden hours 1 law " + law + " odds 0;";
            if (law <= 3) sound(text, 1);
            else faulty(text, 2, 19);
        }
        for (int odds = 0; odds <= 101; odds++) {
            String text = "garden hours 16 law 0 odds " + odds + ";";
            if (odds <= 10) sound(text, 1);
            else faulty(text, 2, 27);
        }
        bounds.term(5, "2 a number out of its bounds");
        faulty("garden hours 17 law 0 odds 0;", 2, 13);
        faulty("garden hours 1 law 4 odds 0;", 2, 19);
        faulty("garden hours 1 law 0 odds 11;", 2, 26);
        bounds.term(4, "hours 1 .. 16, law 0 .. 3, odds 0 .. 10");
        CabbageViews x = plant("garden hours 16 law 3 odds 10;");
        due("count(0), hours", x.count(0), 16);
        due("count(1), law", x.count(1), 3);
        due("count(2), odds", x.count(2), 10);
        CabbageViews least = plant("garden hours 1 law 0 odds 0;");
        due("count(0), hours", least.count(0), 1);
        due("count(1), law", least.count(1), 0);
        due("count(2), odds", least.count(2), 0);
        bounds.term(5, "numbers (digits)");
        faulty("garden hours -1 law 0 odds 0;", 1, 13);
        faulty("garden hours 1 law -1 odds 0;", 1, 19);
    }

    private void boundsOfRows() {
        bounds.term(5, "row: 1 .. 8 HEADS, each hard 1 .. 4, holds 1 .. 16 (not told: 0)");
        faulty(GARDEN + "row;", 1, 31);
        for (int heads = 1; heads <= 8; heads++) sound(GARDEN + "row" + " hard 1".repeat(heads) + ";", 2);
        for (int hard = 0; hard <= 12; hard++) {
            String text = GARDEN + "row hard " + hard + ";";
            if (hard >= 1 && hard <= 4) sound(text, 2);
            else faulty(text, 2, 37);
        }
        for (int holds = 0; holds <= 33; holds++) {
            String text = GARDEN + "row hard 4 holds " + holds + ";";
            if (holds >= 1 && holds <= 16) sound(text, 2);
            else faulty(text, 2, 45);
        }
        CabbageViews x = plant(GARDEN + "row hard 1 holds 16 hard 4;");
        due("head(0, 1), holds", x.head(0, 1), 16);
        due("head(1, 1), not told", x.head(1, 1), 0);
        bounds.term(5, "12 at most in all ROWS");
        sound(GARDEN + "row" + " hard 1".repeat(8) + ";row" + " hard 1".repeat(4) + ";", 3);
        sound(GARDEN + ("row" + " hard 1".repeat(3) + ";").repeat(4), 5);
    }

    private void boundsOfSayingsAndSlugs() {
        bounds.term(5, "V: a VIEW, 1 or 2; H: a HEAD told ahead; at 0 .. 15");
        int at = TWO_HEADS.length();
        for (int view = 0; view <= 11; view++) {
            String text = TWO_HEADS + "say " + view + " to 0 at 0;";
            if (view == 1 || view == 2) sound(text, 3);
            else faulty(text, 2, at + 4);
        }
        for (int head = 0; head <= 13; head++) {
            if (head < 2) {
                sound(TWO_HEADS + "say 1 to " + head + " at 0;", 3);
                sound(TWO_HEADS + "slug to " + head + " at 0;", 3);
            } else {
                faulty(TWO_HEADS + "say 1 to " + head + " at 0;", 2, at + 9);
                faulty(TWO_HEADS + "slug to " + head + " at 0;", 2, at + 8);
            }
        }
        for (int hour = 0; hour <= 33; hour++) {
            if (hour < 16) {
                sound(TWO_HEADS + "say 2 to 1 at " + hour + ";", 3);
                sound(TWO_HEADS + "slug to 1 at " + hour + ";", 3);
            } else {
                faulty(TWO_HEADS + "say 2 to 1 at " + hour + ";", 2, at + 14);
                faulty(TWO_HEADS + "slug to 1 at " + hour + ";", 2, at + 13);
            }
        }
        faulty(GARDEN + SAY, 2, 28 + 9);
        faulty(GARDEN + SLUG, 2, 28 + 8);
        sound("garden hours 1 law 0 odds 0;row hard 1;say 1 to 0 at 15;slug to 0 at 15;", 4);
        faulty("garden hours 16 law 0 odds 0;row hard 1;say 1 to 0 at 16;", 2, 40 + 14);
        String twelve = GARDEN + ("row" + " hard 1".repeat(6) + ";").repeat(2);
        sound(twelve + "say 1 to 11 at 0;slug to 11 at 0;", 5);
        faulty(twelve + "say 1 to 12 at 0;", 2, twelve.length() + 9);
        faulty(twelve + "slug to 12 at 0;", 2, twelve.length() + 8);
    }

    private void placesOfLines() {
        bounds.term(5, "(garden behind the first LINE, another word ahead of it; a row behind a say, a slug)");
        faulty(GARDEN + GARDEN, 1, 28);
        faulty(TWO_HEADS + SAY + GARDEN, 1, TWO_HEADS.length() + SAY.length());
        faulty(ROW + GARDEN, 1, 0);
        faulty(SAY, 1, 0);
        faulty(SLUG, 1, 0);
        faulty("hours 9 law 0 odds 0;", 1, 0);
        faulty(";" + GARDEN, 1, 0);
        faulty("1" + GARDEN, 1, 0);
        bounds.term(5, "All row LINES stand ahead of all say, slug LINES");
        faulty(TWO_HEADS + SAY + ROW, 1, TWO_HEADS.length() + SAY.length());
        faulty(TWO_HEADS + SLUG + ROW, 1, TWO_HEADS.length() + SLUG.length());
        sound(TWO_HEADS + SLUG + SAY + SLUG + SAY, 6);
        bounds.term(5, "LINE: garden hours N law N odds N | row {D} | say V to H at N | slug to H at N");
        faulty(GARDEN + ";", 1, 28);
        faulty(GARDEN + "1;", 1, 28);
        for (String word : new String[] {"hours", "law", "odds", "hard", "holds", "to", "at", "rows", "ro", "sluggish"}) {
            faulty(GARDEN + word + " 1;", 1, 28);
        }
    }

    /** Each text that a line begins with is a fault at its end, if it stops there. */
    private void linesThatStopShort() {
        bounds.term(5, "(a TOKEN's first byte; the end's)");
        String[] tokens = {"garden", " hours", " 9", " law", " 0", " odds", " 0", ";", "row", " hard", " 1", " holds",
            " 1", ";", "say", " 1", " to", " 0", " at", " 0", ";", "slug", " to", " 0", " at", " 0", ";"};
        StringBuilder text = new StringBuilder();
        int lines = 0;
        for (String token : tokens) {
            text.append(token);
            lines += token.equals(";") ? 1 : 0;
            if (token.equals(";")) {
                sound(text.toString(), lines);
            } else {
                faulty(text.toString(), 1, text.length());
                faulty(text + " \n ", 1, text.length() + 3);
                faulty(text + " #", 1, text.length() + 1);
            }
            faulty(text + " garden", 1, text.length() + 1);
        }
        faulty(GARDEN + " ".repeat(565) + "row" + " ".repeat(4), 1, 600);
    }

    private void firstFault() {
        bounds.term(5, "FAULTS, the first by its place");
        faulty("garden hours 0 law 4 odds 11;", 2, 13);
        faulty("garden hours 0 # law", 2, 13);
        faulty("garden # hours 0", 1, 7);
        faulty(TWO_HEADS + "say 3 to 9 at 99;", 2, TWO_HEADS.length() + 4);
        faulty(TWO_HEADS + "say 1 to 9 #", 2, TWO_HEADS.length() + 9);
        faulty(GARDEN + ROW.repeat(5) + "#", 3, 28 + 44);
        faulty(GARDEN + ROW.repeat(3) + "row hard 5;" + ROW, 2, 28 + 33 + 9);
        bounds.term(5, "of one place the least");
        faulty(GARDEN + ROW.repeat(4) + SAY + ROW, 1, 28 + 44 + 16);
        faulty(GARDEN + ROW.repeat(4) + SLUG + ROW, 1, 28 + 44 + 15);
    }

    private void oneTooMany() {
        bounds.term(5, "3 a 5th row, 9th say, 5th slug, at its word");
        sound(GARDEN + ROW.repeat(4), 5);
        faulty(GARDEN + ROW.repeat(4) + "row", 3, 28 + 44);
        faulty(GARDEN + ROW.repeat(4) + "row #", 3, 28 + 44);
        sound(TWO_HEADS + SAY.repeat(8), 10);
        faulty(TWO_HEADS + SAY.repeat(8) + "say", 3, TWO_HEADS.length() + 128);
        faulty(TWO_HEADS + SAY.repeat(8) + "say 3 to 9", 3, TWO_HEADS.length() + 128);
        sound(TWO_HEADS + SLUG.repeat(4), 6);
        faulty(TWO_HEADS + SLUG.repeat(4) + "slug", 3, TWO_HEADS.length() + 60);
        faulty(TWO_HEADS + SLUG.repeat(4) + SAY + SLUG, 3, TWO_HEADS.length() + 76);
        sound(TWO_HEADS + SAY.repeat(8) + SLUG.repeat(4), 14);
        sound(TWO_HEADS + SLUG.repeat(4) + SAY.repeat(8), 14);
        bounds.term(5, "a 9th HEAD of a row, a 13th of all, at its word hard");
        String eight = GARDEN + "row" + " hard 1".repeat(8);
        sound(eight + ";", 2);
        faulty(eight + " hard", 3, eight.length() + 1);
        faulty(eight + " hard 9;", 3, eight.length() + 1);
        faulty(eight + " holds 16 hard 1;", 3, eight.length() + 10);
        String twelve = eight + ";row" + " hard 1".repeat(4);
        sound(twelve + ";", 3);
        faulty(twelve + " hard 1;", 3, twelve.length() + 1);
        faulty(twelve + ";row hard 1;", 3, twelve.length() + 5);
        faulty(twelve + ";row", 1, twelve.length() + 4);
        faulty(twelve + ";row;", 1, twelve.length() + 4);
        faulty(twelve + ";row holds 1;", 1, twelve.length() + 5);
    }

    // ---- promises 6 to 8

    private void heads() {
        bounds.promise(6, "Of a HEAD, what 0: hard, 1: holds, 2: its ROW, 3: its place there");
        CabbageViews x = plant(GARDEN + "row hard 1;row hard 1 hard 4 holds 16;");
        int[] first = {1, 0, 0, 0};
        int[] last = {4, 16, 1, 1};
        for (int what = 0; what < 4; what++) {
            due("head(0, " + what + ")", x.head(0, what), first[what]);
            due("head(2, " + what + ")", x.head(2, what), last[what]);
        }
        CabbageViews full = plant(GARDEN + "row" + " hard 2".repeat(4) + ";row" + " hard 3".repeat(8) + ";");
        due("head(11, 3), the 8th of its row", full.head(11, 3), 7);
        due("head(11, 2)", full.head(11, 2), 1);
        bounds.promise(6, "-2: there are none such");
        bounds.only("head(.., 0)", h -> x.head(h, 0), 0, 2, -2);
        bounds.only("head(1, ..)", what -> x.head(1, what), 0, 3, -2);
        bounds.only("head(.., 3) of twelve", h -> full.head(h, 3), 0, 11, -2);
        bounds.refusedOutside("head(.., 0) of no garden", h -> new CabbageViews().head(h, 0), 0, -1, -2);
        bounds.refusedOutside("head(.., 0) of no heads", h -> plant(GARDEN).head(h, 0), 0, -1, -2);
    }

    private void neighbours() {
        bounds.promise(7, "NEIGHBOURS (II; eaten or not) of a HEAD, as bits");
        // Row 0: heads 0, 1, 2; row 1: head 3; row 2: heads 4, 5; row 3: heads 6, 7, 8.
        CabbageViews x = plant(GARDEN + "row hard 1 hard 1 hard 1;row hard 1;row hard 1 hard 1;"
                + "row hard 1 hard 1 hard 1;");
        int[] near = {2 + 8, 1 + 4, 2, 1 + 16, 8 + 32 + 64, 16 + 128, 16 + 128, 32 + 64 + 256, 128};
        for (int h = 0; h < 9; h++) due("near(" + h + ")", x.near(h), near[h]);
        x.slug(3, 0);
        due("near(0) of an eaten one", x.near(0), 2 + 8);
        due("near(3), itself eaten", x.near(3), 1 + 16);
        due("near of one alone", plant(GARDEN + ROW).near(0), 0);
        CabbageViews full = plant(GARDEN + "row" + " hard 1".repeat(8) + ";row" + " hard 1".repeat(4) + ";");
        due("near(11) of twelve", full.near(11), 1 << 10 | 1 << 3);
        due("near(7), the 8th of its row", full.near(7), 1 << 6);
        due("near(8): the row ahead ends with another place", full.near(8), 1 | 1 << 9);
        bounds.term(7, "those at its place (counted from 0) in the ROW ahead and in the one behind, if there are such");
        due("near(2): the next row ends ahead of its place", x.near(2), 2);
        due("near(5): the row ahead ends ahead of its place", x.near(5), 16 + 128);
        due("near(8): so does that one", x.near(8), 128);
        due("near(6): there is no row behind the last", x.near(6), 16 + 128);
        due("near(0): there is no row ahead of the first", x.near(0), 2 + 8);
        bounds.promise(7, "-2: there is none such");
        bounds.only("near", x::near, 0, 8, -2);
        bounds.refusedOutside("near of no garden", h -> new CabbageViews().near(h), 0, -1, -2);
    }

    private void rows() {
        bounds.promise(8, "HEADS of a ROW, as bits");
        CabbageViews x = plant(GARDEN + ("row hard 1 hard 1 hard 1;").repeat(4));
        for (int row = 0; row < 4; row++) due("heads(" + row + ")", x.heads(row), 7 << 3 * row);
        x.slug(0, 0);
        due("heads(0), one eaten", x.heads(0), 7);
        bounds.promise(8, "-2: there is none such");
        bounds.only("heads", x::heads, 0, 3, -2);
        bounds.only("heads of one row", plant(GARDEN + ROW)::heads, 0, 0, -2);
        bounds.refusedOutside("heads of no rows", plant(GARDEN)::heads, 0, -1, -2);
        bounds.refusedOutside("heads of no garden", new CabbageViews()::heads, 0, -1, -2);
    }
}
