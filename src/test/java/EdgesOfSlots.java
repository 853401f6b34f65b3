/** Promises 57 to 62: counts, IMAGES and SLOTS, and what refused calls leave as it was. */
final class EdgesOfSlots {
    private static final int LEAST = Edges.LEAST;
    private static final int GREATEST = Edges.GREATEST;
    private static final String SIXTEEN = "roll length 1 base 16;law half;";

    private final Edges edges;

    EdgesOfSlots(Edges edges) {
        this.edges = edges;
    }

    void ask() {
        counts();
        images();
        noRollImages();
        backs();
        rows();
        rowsRefused();
        writes();
        writesRefused();
        pastes();
        pasteRanges();
        pastesRefused();
        pastesWithin();
    }

    private void due(String call, long got, long want) {
        edges.due(call, got, want);
    }

    /**
     * A row has just these numbers, each a FIGURE (0 .. 15) or gone (-1), and this WIDTH. Each is put into
     * SLOT 3, which is there for that alone, and told by the TICKET that it can have been.
     */
    private void has(LuckyTicket x, int slot, int width, long... numbers) {
        due("a row of one in SLOT 3", x.row(3, width, 1), 0);
        for (int i = 0; i < numbers.length; i++) {
            due("number " + i + " is of WIDTH " + width, x.paste(slot, i, 3, 0, 1), 0);
            due("number " + i, x.worn(3, 0, 3) == 1 ? -1 : x.worn(3, 0, 2), numbers[i]);
        }
        due("there are no more", x.paste(slot, numbers.length, 3, 0, 1), -7);
    }

    private static void write(LuckyTicket x, int slot, int width, long... numbers) {
        x.row(slot, width, numbers.length);
        for (int i = 0; i < numbers.length; i++) {
            x.write(slot, i, numbers[i]);
        }
    }

    private void counts() {
        edges.promise(57, "NONE for others");
        LuckyTicket x = Check.rolled("roll length 3 base 4;law sum 1;law sum 2;law sum 10;");
        for (int what : new int[] {-1, 8, LEAST, GREATEST}) {
            due("count(" + what + ")", x.count(what), -1);
            due("without a ROLL", new LuckyTicket().count(what), -1);
        }
        edges.promise(57, "0 length, 1 base, 2 TICKETS, 3 LAWS, 4 LINES, 5 bytes of the TAPE, 6 TICKETS LUCKY by some LAW, 7 SLOTS that have a row");
        x.row(0, 0, 0);
        x.row(3, 3, 60);
        x.row(3, 2, 0);
        x.feed(0, 0, 0, 0, 0);
        x.end(7);
        int[] counts = {3, 4, 64, 3, 4, 7, 9, 2};
        for (int what = 0; what < counts.length; what++) {
            due("count(" + what + ")", x.count(what), counts[what]);
        }
        x.row(1, 0, 1);
        x.row(2, 0, 1);
        due("all SLOTS", x.count(7), 4);
        edges.promise(57, "(0 without a ROLL)");
        LuckyTicket none = new LuckyTicket();
        none.row(2, 1, 0);
        none.feed(0, 0, 0, 0, 0);
        int[] without = {0, 0, 0, 0, 0, 20, 0, 1};
        for (int what = 0; what < without.length; what++) {
            due("count(" + what + ")", none.count(what), without[what]);
        }
        LuckyTicket noLaws = Check.rolled("roll length 3 base 4;");
        due("no LAWS", noLaws.count(3), 0);
        due("LUCKY by none", noLaws.count(6), 0);
        due("LINES", noLaws.count(4), 1);
    }

    private void images() {
        edges.promise(58, "IMAGE k (0 .. 2) keeps the ROLL: 0. -2: no such k.");
        LuckyTicket x = Check.rolled(SIXTEEN);
        edges.bounds("image", x::image, 0, 2);
        due("image(1) has not been made", x.back(1), -6);
        for (int k = 0; k <= 2; k++) {
            Check.feed(x, "roll length " + (k + 2) + " base 2;law sum " + k + ";");
            x.roll();
            due("image(" + k + ")", x.image(k), 0);
            due("the ROLL stays", x.count(2), 4 << k);
        }
        for (int k : new int[] {-1, 3, LEAST, GREATEST}) {
            due("no such k", x.image(k), -2);
        }
        int[] many = {1, 3, 6};
        for (int k = 0; k <= 2; k++) {
            due("back(" + k + ")", x.back(k), 0);
            due("TICKETS", x.count(2), 4 << k);
            due("LUCKY ones", x.many(0), many[k]);
        }
        Check.feed(x, SIXTEEN);
        x.roll();
        due("in place of another", x.image(1), 0);
        x.back(0);
        due("back(1)", x.back(1), 0);
        due("in place of another", x.count(2), 16);
        due("back(2)", x.back(2), 0);
        due("the others stay", x.count(2), 16);
        due("the others stay", x.count(0), 4);
    }

    private void noRollImages() {
        edges.promise(58, "keeps the ROLL: 0");
        LuckyTicket x = new LuckyTicket();
        due("no ROLL", x.image(0), 0);
        Check.feed(x, SIXTEEN);
        x.roll();
        due("image of a ROLL", x.image(1), 0);
        due("back to none", x.back(0), 0);
        due("there is none", x.count(2), 0);
        due("there is none", x.many(0), -2);
        due("there is none", x.both(0), -2);
        due("back to one", x.back(1), 0);
        due("there is one", x.many(0), 16);
    }

    private void backs() {
        edges.promise(59, "-2: no such k; -6: it has nothing");
        LuckyTicket x = Check.rolled(SIXTEEN);
        edges.bounds("back", x::back, 0, 2);
        for (int k = 0; k <= 2; k++) {
            due("nothing", x.back(k), -6);
        }
        due("the ROLL stays", x.count(2), 16);
        due("the ROLL stays", x.many(0), 16);
        edges.promise(59, "It is as IMAGE k has it: 0");
        x.image(2);
        Check.feed(x, "roll length 9 base 3;law sum 18;law sum 0;");
        x.roll();
        x.image(0);
        Check.feed(x, "roll length 2 base 2;law ?");
        due("a FAULT", x.roll(), -4);
        x.row(0, 1, 3);
        due("back(2)", x.back(2), 0);
        int[] sixteen = {1, 16, 16, 1, 2, 26, 16, 1};
        for (int what = 0; what < sixteen.length; what++) {
            due("count(" + what + ")", x.count(what), sixteen[what]);
        }
        due("TAPE and FAULT stay", x.fault(1), 25);
        due("figure", x.figure(15, 0), 15);
        due("a LAW that is gone", x.many(1), -2);
        due("back(0)", x.back(0), 0);
        due("the greater one", x.count(2), 19683);
        due("the last TICKET", x.laws(19682), 1);
        due("the first TICKET", x.laws(0), 2);
        due("nothing", x.back(1), -6);
        due("the ROLL stays", x.count(2), 19683);
        due("back(2), again", x.back(2), 0);
        due("as before", x.many(0), 16);
    }

    private void rows() {
        edges.promise(60, "A SLOT (0 .. 3) has a row of n numbers of a WIDTH, all 0 (in place of another one): 0");
        LuckyTicket x = Check.rolled(SIXTEEN);
        for (int width = 0; width <= 3; width++) {
            due("none", x.row(1, width, 0), 0);
            has(x, 1, width);
            due("one", x.row(1, width, 1), 0);
            has(x, 1, width, 0);
            write(x, 1, 3 - width, 5, 6, 7);
            due("in place of another", x.row(1, width, 2), 0);
            has(x, 1, width, 0, 0);
            due("in place of a shorter one", x.row(1, width, 3), 0);
            has(x, 1, width, 0, 0, 0);
        }
        due("60", x.row(2, 0, 60), 0);
        due("all 0", x.judge(2, 0), 60);
        due("all 0", x.kept(2, 0), 1);
        due("the others stay", x.judge(1, 0), 3);
        due("the others stay", x.judge(0, 0), -6);
    }

    private void rowsRefused() {
        LuckyTicket x = Check.rolled(SIXTEEN);
        write(x, 1, 2, 5, 6, 7);
        edges.promise(60, "-2: there is no such SLOT or WIDTH (0 .. 3), or n is above 60");
        edges.bounds("row(slot, 2, 1)", slot -> slot == 0 || slot == 3 ? x.row(slot, 2, 1) : x.row(slot, 2, -1), 0, 3);
        due("WIDTH -1", x.row(1, -1, 1), -2);
        due("WIDTH 4", x.row(1, 4, 1), -2);
        due("the least WIDTH", x.row(1, LEAST, 1), -2);
        due("the greatest WIDTH", x.row(1, GREATEST, 1), -2);
        due("61", x.row(1, 2, 61), -2);
        due("the greatest n", x.row(1, 2, GREATEST), -2);
        due("no SLOT, n below 0", x.row(4, 2, -1), -2);
        due("no WIDTH, n below 0", x.row(1, 4, -1), -2);
        has(x, 1, 2, 5, 6, 7);
        due("SLOT 2 has nothing", x.judge(2, 0), -6);
        due("SLOTS that have a row", x.count(7), 3);
        edges.promise(60, "-3, and the SLOT stays: n is below 0");
        due("-1", x.row(1, 2, -1), -3);
        due("of another WIDTH", x.row(1, 0, -1), -3);
        due("the least", x.row(1, 3, LEAST), -3);
        has(x, 1, 2, 5, 6, 7);
        due("-1 of nothing", x.row(2, 0, -1), -3);
        due("nothing still", x.judge(2, 0), -6);
        due("SLOTS that have a row", x.count(7), 3);
    }

    private void writes() {
        edges.promise(61, "Number i of the SLOT's row is v, cut to its WIDTH: 0");
        long[][] kept = {
            {15, -128, 127, 16}, {15, 256, -32768, 32767}, {15, 65536, LEAST, GREATEST},
            {15, 1L << 32, Long.MIN_VALUE, Long.MAX_VALUE}};
        for (int width = 0; width <= 3; width++) {
            LuckyTicket x = Check.rolled(SIXTEEN);
            write(x, 0, width, kept[width]);
            has(x, 0, width, 15, -1, -1, -1);
            // all bits but those that stay are cut
            long above = width == 3 ? 0 : -1L << (8 << width);
            write(x, 0, width, above + 3, above, above / 2 * 2 + 15, above == 0 ? 0 : Long.MIN_VALUE);
            has(x, 0, width, 3, 0, 15, 0);
        }
        LuckyTicket x = Check.rolled(SIXTEEN);
        x.row(2, 0, 60);
        due("the first", x.write(2, 0, 7), 0);
        due("the last", x.write(2, 59, 8), 0);
        due("0 7 8", x.kept(2, 0), 3);
        due("again", x.write(2, 59, 7), 0);
        due("0 7", x.kept(2, 0), 2);
        // a number of one byte is below 128: 200 is no TICKET there, but it is one of two bytes
        LuckyTicket many = Check.rolled("roll length 8 base 2;law half or not half;");
        write(many, 0, 0, 127, 128, 200, 255);
        write(many, 1, 1, 127, 128, 200, 255);
        due("one byte", many.kept(0, 0), 1);
        due("two bytes", many.kept(1, 0), 4);
    }

    private void writesRefused() {
        LuckyTicket x = Check.rolled(SIXTEEN);
        write(x, 1, 1, 5, 6);
        edges.promise(61, "-2: there is no such SLOT");
        edges.bounds("write(slot, 9, 1)", slot -> x.write(slot, 9, 1), 0, 3);
        edges.promise(61, "-6: it has nothing");
        due("0", x.write(0, 0, 1), -6);
        due("-6 ahead of -7", x.write(0, -1, 1), -6);
        due("-6 ahead of -7", x.write(0, 60, 1), -6);
        due("nothing still", x.judge(0, 0), -6);
        edges.promise(61, "-7: there is no such number");
        for (int i : new int[] {-1, 2, 59, 60, LEAST, GREATEST}) {
            due("number " + i, x.write(1, i, 9), -7);
        }
        has(x, 1, 1, 5, 6);
        x.row(1, 1, 0);
        due("of no numbers", x.write(1, 0, 9), -7);
        x.row(1, 1, 60);
        due("the 61st", x.write(1, 60, 9), -7);
        due("all 0 still", x.kept(1, 0), 1);
    }

    private void pastes() {
        edges.promise(62, "So many numbers of a SLOT's row, from one on, are put to another one's (or its own), from one on, as they were: 0");
        for (int width = 0; width <= 3; width++) {
            LuckyTicket x = Check.rolled(SIXTEEN);
            write(x, 0, width, 1, 2, -1, 4);
            write(x, 1, width, 5, 6, 7);
            due("none", x.paste(0, 0, 1, 0, 0), 0);
            due("none at the ends", x.paste(0, 4, 1, 3, 0), 0);
            has(x, 1, width, 5, 6, 7);
            due("the last one", x.paste(0, 3, 1, 2, 1), 0);
            has(x, 1, width, 5, 6, 4);
            due("as many as fit", x.paste(0, 1, 1, 0, 3), 0);
            has(x, 1, width, 2, -1, 4);
            has(x, 0, width, 1, 2, -1, 4);
            due("back", x.paste(1, 0, 0, 0, 3), 0);
            has(x, 0, width, 2, -1, 4, 4);
        }
        LuckyTicket x = Check.rolled(SIXTEEN);
        x.row(0, 3, 60);
        x.row(1, 3, 60);
        x.write(0, 0, 1);
        x.write(0, 59, 2);
        due("60", x.paste(0, 0, 1, 0, 60), 0);
        due("0 1 2", x.kept(1, 0), 3);
    }

    private void pastesWithin() {
        edges.promise(62, "(or its own), from one on, as they were");
        LuckyTicket x = Check.rolled(SIXTEEN);
        write(x, 0, 0, 1, 2, 3, 4, 5);
        due("onto itself", x.paste(0, 0, 0, 0, 5), 0);
        has(x, 0, 0, 1, 2, 3, 4, 5);
        due("upwards, over one another", x.paste(0, 0, 0, 1, 4), 0);
        has(x, 0, 0, 1, 1, 2, 3, 4);
        due("downwards, over one another", x.paste(0, 2, 0, 0, 3), 0);
        has(x, 0, 0, 2, 3, 4, 3, 4);
        due("beyond", x.paste(0, 1, 0, 2, 4), -7);
        due("beyond", x.paste(0, 2, 0, 1, 4), -7);
        has(x, 0, 0, 2, 3, 4, 3, 4);
    }

    private void pasteRanges() {
        LuckyTicket x = Check.rolled(SIXTEEN);
        write(x, 0, 1, 1, 2, 3, 4);
        write(x, 1, 1, 5, 6, 7);
        edges.promise(62, "-7, and nothing happens: some are beyond their rows, or a place or n is below 0");
        int[][] beyond = {
            {0, 0, 4}, {0, 1, 3}, {2, 0, 3}, {3, 0, 2}, {4, 0, 1}, {0, 3, 1}, {5, 0, 0}, {0, 4, 0},
            {-1, 0, 1}, {0, -1, 1}, {0, 0, -1}, {-1, 0, 0}, {0, -1, 0}, {4, 3, -1}, {-1, -1, -1},
            {GREATEST, 0, 1}, {0, GREATEST, 1}, {0, 0, GREATEST}, {GREATEST, GREATEST, GREATEST},
            {1, 1, GREATEST}, {GREATEST, 0, 0}, {0, GREATEST, 0}, {LEAST, 0, 1}, {0, LEAST, 1}, {0, 0, LEAST},
            {LEAST, LEAST, LEAST}, {LEAST, 0, GREATEST}, {GREATEST, 0, LEAST}};
        for (int[] b : beyond) {
            due("paste(0, " + b[0] + ", 1, " + b[1] + ", " + b[2] + ")", x.paste(0, b[0], 1, b[1], b[2]), -7);
        }
        has(x, 0, 1, 1, 2, 3, 4);
        has(x, 1, 1, 5, 6, 7);
    }

    private void pastesRefused() {
        LuckyTicket x = Check.rolled(SIXTEEN);
        write(x, 0, 1, 1, 2);
        write(x, 1, 2, 5, 6);
        edges.promise(62, "-2: there is no such SLOT");
        edges.bounds("paste(slot, 9, 0, 9, 9)", slot -> x.paste(slot, 9, 0, 9, 9), 0, 3);
        edges.bounds("paste(0, 9, to, 9, 9)", to -> x.paste(0, 9, to, 9, 9), 0, 3);
        due("-2 ahead of -6", x.paste(2, 0, 4, 0, 0), -2);
        due("-2 ahead of -6", x.paste(4, 0, 2, 0, 0), -2);
        edges.promise(62, "-6: one has nothing");
        due("the first", x.paste(2, 0, 0, 0, 1), -6);
        due("the second", x.paste(0, 0, 2, 0, 1), -6);
        due("both", x.paste(2, 0, 2, 0, 0), -6);
        due("-6 ahead of -7", x.paste(2, -1, 0, 0, 1), -6);
        due("-6 ahead of -7", x.paste(0, 0, 2, -1, 1), -6);
        due("nothing still", x.judge(2, 0), -6);
        edges.promise(62, "-8: they are not of one WIDTH");
        due("one", x.paste(0, 0, 1, 0, 1), -8);
        due("none", x.paste(0, 0, 1, 0, 0), -8);
        due("-8 ahead of -7", x.paste(0, 0, 1, 0, 3), -8);
        due("-8 ahead of -7", x.paste(1, -1, 0, 0, 1), -8);
        has(x, 0, 1, 1, 2);
        has(x, 1, 2, 5, 6);
        for (int one = 0; one <= 3; one++) {
            for (int other = 0; other <= 3; other++) {
                x.row(0, one, 1);
                x.row(1, other, 1);
                due("WIDTHS " + one + ", " + other, x.paste(0, 0, 1, 0, 1), one == other ? 0 : -8);
            }
        }
    }
}
