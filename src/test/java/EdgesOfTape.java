/** Promises 1 to 5: the new object, the TAPE, the ROLL that it becomes, and its FAULT. */
final class EdgesOfTape {
    private static final int LEAST = Edges.LEAST;
    private static final int GREATEST = Edges.GREATEST;
    private static final String HEAD = "roll length 2 base 2;";
    private static final int SPACES = 0x20202020;

    private final Edges edges;

    EdgesOfTape(Edges edges) {
        this.edges = edges;
    }

    void ask() {
        newObject();
        noRollNoTickets(new LuckyTicket());
        feeds();
        fullTape();
        ends();
        refusedEnds();
        rolls();
        fullRolls();
        emptyRoll();
        faultStays();
        faults();
        calls();
    }

    private void due(String call, long got, long want) {
        edges.due(call, got, want);
    }

    private void newObject() {
        edges.promise(1, "No ROLL.");
        LuckyTicket x = new LuckyTicket();
        for (int what = 0; what <= 7; what++) {
            due("count(" + what + ")", x.count(what), 0);
        }
        due("fault(0)", x.fault(0), 0);
        due("fault(1)", x.fault(1), -1);
        for (int k = 0; k <= 2; k++) {
            due("back(" + k + ")", x.back(k), -6);
        }
        for (int slot = 0; slot <= 3; slot++) {
            due("write(" + slot + ", 0, 0)", x.write(slot, 0, 0), -6);
        }
    }

    /** Every call that asks about a TICKET, a LAW or the ROLL has none such. */
    private void noRollNoTickets(LuckyTicket x) {
        due("figure", x.figure(0, 0), -2);
        due("sums", x.sums(0, 0), -2);
        due("lucky", x.lucky(0, 0), -2);
        due("laws", x.laws(0), -2);
        due("many", x.many(0), -2);
        due("rank", x.rank(0, 0), -2);
        due("next", x.next(0, 0), -2);
        due("last", x.last(0, 0), -2);
        due("nth", x.nth(0, 0), -2);
        due("gap", x.gap(0, 0), -2);
        due("waits", x.waits(0, 0, 1), -2);
        due("hits", x.hits(0, 0, 1, 0), -2);
        due("steps", x.steps(0, 0, 1, 0), -2);
        due("chance", x.chance(0, 0), -2);
        due("share", x.share(0, 0), -2);
        due("whose", x.whose(0, 0), -2);
        due("both", x.both(0), -2);
        due("just", x.just(0), -2);
        due("so", x.so(0), -2);
        due("alike", x.alike(0, 0), -2);
        due("differ", x.differ(0, 0), -2);
        due("worn", x.worn(0, 0, 0), -2);
        due("likely", x.likely(0, 0, 0, 0), -2);
        due("mend", x.mend(0, 0), -2);
        due("mended", x.mended(0, 0), -2);
        due("nearest", x.nearest(0, 0), -2);
        due("about", x.about(0), -2);
        due("draw", x.draw(0, 0), -2);
        due("sold", x.sold(0, 0, 1), -2);
        due("first", x.first(0, 0, 1), -2);
        due("seldom", x.seldom(0, 1, 0), -2);
        due("sets", x.sets(0), -2);
        due("judge", x.judge(0, 0), -2);
        due("kept", x.kept(0, 0), -2);
        due("between", x.between(0, 0, 0), -2);
        due("run", x.run(0, 0), -2);
        due("window", x.window(0, 1, 0), -2);
        due("window of none", x.window(0, 0, 0), -2);
        due("have", x.have(0, 0), -2);
        due("at", x.at(0, 0, 0), -2);
        due("mostly", x.mostly(0, 0), -2);
        due("same", x.same(0, 0, 0), -2);
        due("walk", x.walk(0, 0, 0), -2);
        due("islands", x.islands(0, 0), -2);
        due("length", x.count(0), 0);
        due("base", x.count(1), 0);
        due("TICKETS", x.count(2), 0);
        due("LAWS", x.count(3), 0);
        due("LINES", x.count(4), 0);
        due("LUCKY by some LAW", x.count(6), 0);
    }

    private void feeds() {
        edges.promise(2, "Twenty bytes come behind the TAPE");
        LuckyTicket x = new LuckyTicket();
        Check.feed(x, "roll length 3 base ");
        int[] w = Check.words("4; law sum 9;       ", 0);
        due("feed", x.feed(w[0], w[1], w[2], w[3], w[4]), 39);
        due("roll", x.roll(), 2);
        due("TICKETS", x.count(2), 64);
        due("many", x.many(0), 1);
        edges.promise(2, "four of each number, the highest first");
        due("feed", x.feed(0x726F6C6C, 0x206C656E, 0x67746820, 0x32206261, 0x73652033), 20);
        due("feed", x.feed(0x3B0A2020, SPACES, SPACES, SPACES, 0x20202020), 40);
        due("roll length 2 base 3;", x.roll(), 1);
        due("TICKETS", x.count(2), 9);
        for (int place = 0; place < 20; place++) {
            int[] words = Check.words(" ".repeat(place) + (char) 255 + " ".repeat(19 - place), 0);
            due("feed", x.feed(words[0], words[1], words[2], words[3], words[4]), 20);
            due("a byte that is no TOKEN", x.roll(), -4);
            due("its place", x.fault(1), place);
            due("end", x.end(0), 0);
        }
        edges.promise(2, "how many it has");
        for (int n = 20; n <= 1200; n += 20) {
            due("feed", x.feed(LEAST, -1, 0, 1, GREATEST), n);
        }
    }

    private void fullTape() {
        edges.promise(2, "NONE, and none come, if it would have more than 1,200");
        int[] bad = Check.words("?".repeat(20), 0);
        for (int size : new int[] {1200, 1199, 1190, 1181}) {
            LuckyTicket x = new LuckyTicket();
            Check.feed(x, " ".repeat(size - 31) + HEAD + "law odd  ;");
            due("TAPE", x.count(5), size);
            due("feed behind " + size, x.feed(bad[0], bad[1], bad[2], bad[3], bad[4]), -1);
            due("and once more", x.feed(bad[0], bad[1], bad[2], bad[3], bad[4]), -1);
            due("none came", x.count(5), size);
            due("none came", x.roll(), 2);
            due("none came", x.many(0), 2);
            due("an empty one has room", x.feed(bad[0], bad[1], bad[2], bad[3], bad[4]), 20);
        }
        LuckyTicket x = new LuckyTicket();
        Check.feed(x, " ".repeat(1180));
        due("feed behind 1180", x.feed(bad[0], bad[1], bad[2], bad[3], bad[4]), 1200);
        due("all came", x.roll(), -4);
        due("all came", x.fault(1), 1180);
    }

    private void ends() {
        edges.promise(3, "The TAPE has its first n bytes alone: n");
        LuckyTicket x = new LuckyTicket();
        due("of none", x.end(0), 0);
        Check.feed(x, HEAD + "law half;?????");
        due("all", x.end(35), 35);
        due("its first", x.end(30), 30);
        due("TAPE", x.count(5), 30);
        due("those behind are gone", x.end(31), -1);
        due("those that come next stand there", x.feed(SPACES, SPACES, SPACES, SPACES, SPACES), 50);
        due("roll", x.roll(), 2);
        cutWithin(x, HEAD + "law sum 18", "10;", 1, 31);
        cutWithin(x, HEAD + "law hal", "f;", 1, 25);
        cutWithin(x, HEAD + "law half", ";", 1, 29);
        cutWithin(x, "roll length 1", "3", 1, 13);
        Check.feed(x, "?????");
        due("none", x.end(0), 0);
        due("TAPE", x.count(5), 0);
        due("roll of none", x.roll(), 0);
    }

    /** What has been cut off is not read, not even where it would make the last TOKEN longer. */
    private void cutWithin(LuckyTicket x, String text, String cut, int fault, int place) {
        Check.feed(x, text + cut);
        due("end", x.end(text.length()), text.length());
        due("roll of " + text, x.roll(), -4);
        due("its FAULT", x.fault(0), fault);
        due("its place", x.fault(1), place);
        due("end", x.end(0), 0);
    }

    private void refusedEnds() {
        edges.promise(3, "NONE, and nothing happens, if it has not so many");
        LuckyTicket x = new LuckyTicket();
        due("one of none", x.end(1), -1);
        Check.feed(x, HEAD);
        due("one more", x.end(22), -1);
        due("twenty more", x.end(41), -1);
        due("1,201", x.end(1201), -1);
        due("the greatest", x.end(GREATEST), -1);
        due("nothing happened", x.count(5), 21);
        due("nothing happened", x.roll(), 1);
        due("as many as it had", x.end(21), -1);
        edges.promise(3, "or n is below 0");
        Check.feed(x, HEAD);
        due("-1", x.end(-1), -1);
        due("the least", x.end(LEAST), -1);
        due("nothing happened", x.count(5), 21);
        due("nothing happened", x.roll(), 1);
        due("-1 of none", x.end(-1), -1);
        due("nothing happened", x.count(5), 0);
    }

    private void rolls() {
        edges.promise(4, "The TAPE (empty then) is the ROLL (in place of another): how many LINES");
        LuckyTicket x = new LuckyTicket();
        Check.feed(x, "roll length 4 base 10;law half;law odd;law mirror;");
        due("roll", x.roll(), 4);
        due("LINES", x.count(4), 4);
        due("the TAPE is empty", x.count(5), 0);
        due("the TAPE is empty", x.end(1), -1);
        due("many", x.many(0), 670);
        Check.feed(x, HEAD + "law sum 0;");
        due("in place of another", x.roll(), 2);
        due("TICKETS", x.count(2), 4);
        due("LAWS", x.count(3), 1);
        due("LUCKY by some LAW", x.count(6), 1);
        due("a LAW that is gone", x.many(1), -2);
        due("a TICKET that is gone", x.laws(4), -2);
        due("a PLACE that is gone", x.figure(0, 2), -2);
        due("a FIGURE that is gone", x.at(0, 0, 2), -2);
        Check.feed(x, HEAD);
        due("without LAWS", x.roll(), 1);
        due("a LAW that is gone", x.many(0), -2);
        due("by none", x.laws(0), 0);
        Check.feed(x, HEAD + "law half;".repeat(9));
        due("as many LINES as may be", x.roll(), 10);
        due("by all", x.laws(0), 511);
    }

    /** Texts that fill the TAPE, one in place of the other, as often as calls allow. */
    private void fullRolls() {
        edges.promise(4, "The TAPE (empty then) is the ROLL (in place of another)");
        LuckyTicket x = new LuckyTicket();
        for (int round = 0; round < 7; round++) {
            String sum = "sum " + (round % 3);
            // 24 of and, or in each law, as many as may be
            String law = "law not odd and odd" + " or not odd and odd".repeat(11) + " or " + sum + ";";
            StringBuilder text = new StringBuilder(HEAD);
            while (text.length() + law.length() <= 1200) {
                text.append(law);
            }
            int laws = (text.length() - HEAD.length()) / law.length();
            text.append(" ".repeat(1200 - text.length()));
            Check.feed(x, text.toString());
            due("roll", x.roll(), laws + 1);
            for (int i = 0; i < laws; i++) {
                due("many(" + i + ")", x.many(i), round % 3 == 1 ? 2 : 1);
            }
        }
    }

    private void emptyRoll() {
        edges.promise(4, "(0: there is none then)");
        for (String text : new String[] {"", " ", "\n", " \n ".repeat(400)}) {
            LuckyTicket x = Check.rolled(HEAD + "law half;");
            Check.feed(x, text);
            due("roll of nothing", x.roll(), 0);
            due("no FAULT", x.fault(0), 0);
            due("no place", x.fault(1), -1);
            due("the TAPE is empty", x.count(5), 0);
            noRollNoTickets(x);
        }
    }

    private void faultStays() {
        edges.promise(4, "-4: a FAULT (all stays)");
        String[] faulty = {"roll", HEAD + "law sum 1;law sum 181;", HEAD + "law half;".repeat(10)};
        int[] faults = {1, 2, 3};
        int[] places = {4, 39, 102};
        for (int i = 0; i < faulty.length; i++) {
            LuckyTicket x = Check.rolled("roll length 3 base 2;law sum 1;");
            x.image(1);
            Check.feed(x, "roll length 4 base 3;law half;law odd;");
            x.roll();
            x.row(2, 1, 2);
            x.write(2, 1, 20);
            Check.feed(x, faulty[i]);
            due("roll", x.roll(), -4);
            due("FAULT", x.fault(0), faults[i]);
            due("its place", x.fault(1), places[i]);
            int[] counts = {4, 3, 81, 2, 3, faulty[i].length(), 29, 1};
            for (int what = 0; what < counts.length; what++) {
                due("count(" + what + ") stays", x.count(what), counts[what]);
            }
            for (int ticket = 0; ticket < 81; ticket++) {
                due("laws(" + ticket + ") stay", x.laws(ticket), luckOfFour(ticket));
            }
            due("the SLOT stays", x.judge(2, 0), 2);
            due("the SLOT stays", x.kept(2, 0), 2);
            due("no IMAGE has come", x.back(0), -6);
            due("the TAPE stays", x.roll(), -4);
            due("the TAPE stays", x.fault(1), places[i]);
            due("the IMAGE stays", x.back(1), 0);
            due("the IMAGE stays", x.count(2), 8);
            due("the IMAGE stays", x.many(0), 3);
            due("the TAPE can be cut", x.end(0), 0);
            due("and is empty", x.roll(), 0);
        }
        LuckyTicket none = new LuckyTicket();
        Check.feed(none, "roll");
        due("without a ROLL", none.roll(), -4);
        due("the TAPE stays", none.count(5), 4);
        noRollNoTickets(none);
    }

    /** By half and by odd, of length 4 and base 3. */
    private static int luckOfFour(int ticket) {
        int a = ticket / 27;
        int b = ticket / 9 % 3;
        int c = ticket / 3 % 3;
        int d = ticket % 3;
        return (a + b == c + d ? 1 : 0) + (a + c == b + d ? 2 : 0);
    }

    private void faults() {
        edges.promise(5, "NONE for another what, and ahead of any (what 1)");
        LuckyTicket x = new LuckyTicket();
        due("ahead of any", x.fault(1), -1);
        due("ahead of any", x.fault(0), 0);
        for (int what : new int[] {-1, 2, LEAST, GREATEST}) {
            due("another what", x.fault(what), -1);
        }
        Check.feed(x, HEAD + "?");
        due("the TAPE alone has no FAULT", x.fault(0), 0);
        due("roll", x.roll(), -4);
        for (int what : new int[] {-1, 2, LEAST, GREATEST}) {
            due("another what", x.fault(what), -1);
        }
        edges.promise(5, "Of the latest roll(), what 0: its FAULT, 0 without, 1: its place (NONE without).");
        due("FAULT", x.fault(0), 1);
        due("its place", x.fault(1), 21);
        x.end(21);
        due("FAULT, still", x.fault(0), 1);
        due("its place, still", x.fault(1), 21);
        due("roll", x.roll(), 1);
        due("without", x.fault(0), 0);
        due("without", x.fault(1), -1);
        Check.feed(x, "?");
        due("roll", x.roll(), -4);
        due("the least place", x.fault(1), 0);
        x.end(0);
        due("roll of nothing", x.roll(), 0);
        due("without", x.fault(0), 0);
        due("without", x.fault(1), -1);
        Check.feed(x, " ".repeat(1200));
        x.end(1180);
        x.feed(SPACES, SPACES, SPACES, SPACES, 0x2020203F);
        due("roll", x.roll(), -4);
        due("the greatest place of a TOKEN", x.fault(1), 1199);
        x.end(1180);
        x.feed(0x726F6C6C, SPACES, SPACES, SPACES, SPACES);
        due("roll", x.roll(), -4);
        due("the end's", x.fault(1), 1200);
        x.end(0);
        Check.feed(x, " ".repeat(1187) + "roll length 1");
        due("a number to the end", x.roll(), -4);
        due("the end's", x.fault(1), 1200);
        x.end(0);
        Check.feed(x, " ".repeat(1189) + "roll length");
        due("a word to the end", x.roll(), -4);
        due("the end's", x.fault(1), 1200);
    }

    /** The last call of them is answered as the first ones are. */
    private void calls() {
        edges.opening("An object is used for at most 512 calls after it has been made");
        LuckyTicket x = new LuckyTicket();
        int calls = 0;
        for (int round = 0; round < 8; round++) {
            for (int i = 0; i < 60; i++) {
                due("feed", x.feed(SPACES, SPACES, SPACES, SPACES, SPACES), 20 * (i + 1));
            }
            due("feed behind all", x.feed(0, 0, 0, 0, 0), -1);
            due("end", x.end(0), 0);
            calls += 62;
        }
        int[] first = Check.words("roll length 9 base 3", 0);
        int[] second = Check.words(";law half;law odd;  ", 0);
        due("feed", x.feed(first[0], first[1], first[2], first[3], first[4]), 20);
        due("feed", x.feed(second[0], second[1], second[2], second[3], second[4]), 40);
        due("roll", x.roll(), 3);
        calls += 3;
        LuckyTicket fresh = Check.rolled("roll length 9 base 3;law half;law odd;");
        due("many", x.many(0), fresh.many(0));
        due("islands", x.islands(0, 1), fresh.islands(0, 1));
        due("walk", x.walk(0, 0, 19682), fresh.walk(0, 0, 19682));
        due("image", x.image(2), 0);
        due("roll of nothing", x.roll(), 0);
        due("back", x.back(2), 0);
        calls += 6;
        for (; calls < 511; calls++) {
            due("row", x.row(calls % 4, 3, 60), 0);
        }
        due("the 512th call", x.last(1, 19682), fresh.last(1, 19682));
        calls++;
        due("calls", calls, 512);
    }
}
