/** Terms I: the bounds of a text, its tokens, its faults and their places. */
final class EdgesOfText {
    private static final String HEAD = "roll length 2 base 2;";

    private final Edges edges;

    EdgesOfText(Edges edges) {
        this.edges = edges;
    }

    void ask() {
        lines();
        measures();
        tickets();
        laws();
        joins();
        sums();
        rests();
        lawsAhead();
        places();
        blanks();
        letters();
        digits();
        signs();
        firstByPlace();
        leastOfOnePlace();
        cannotStand();
        notAsSaid();
        tenthLaw();
        nested();
        joined();
        rows();
    }

    private void good(String text, int lines) {
        LuckyTicket x = new LuckyTicket();
        Check.feed(x, text);
        edges.due("roll() of " + text, x.roll(), lines);
        edges.due("fault(0) of " + text, x.fault(0), 0);
        edges.due("fault(1) of " + text, x.fault(1), -1);
        edges.due("LINES of " + text, x.count(4), lines);
    }

    private void bad(String text, int fault, int place) {
        LuckyTicket x = new LuckyTicket();
        Check.feed(x, text);
        edges.due("roll() of " + text, x.roll(), -4);
        edges.due("fault(0) of " + text, x.fault(0), fault);
        edges.due("fault(1) of " + text, x.fault(1), place);
        edges.due("LINES of " + text, x.count(4), 0);
    }

    /** A fault at the last number of a text, or at its last word. */
    private void badAtLast(String text, int fault) {
        int place = text.length();
        while (place > 0 && text.charAt(place - 1) != ' ' && text.charAt(place - 1) != ';') {
            place--;
        }
        bad(text, fault, place);
    }

    private void lines() {
        edges.term("I", "ROLL: {LINE ;}.");
        good("", 0);
        good(HEAD, 1);
        good(HEAD + "law half;", 2);
        bad("roll length 2 base 2", 1, 20);
        bad(HEAD + "law half", 1, 29);
        bad(HEAD + ";", 1, 21);
        bad(";", 1, 0);
        edges.term("I", "roll is the first LINE and no other");
        bad("law half;", 1, 0);
        bad("law half;" + HEAD, 1, 0);
        bad(HEAD + HEAD, 1, 21);
        bad(HEAD + "law half;" + HEAD, 1, 30);
    }

    private void measures() {
        edges.term("I", "length 1 .. 12");
        badAtLast("roll length 0", 2);
        badAtLast("roll length 000", 2);
        good("roll length 1 base 2;", 1);
        good("roll length 12 base 2;", 1);
        good("roll length 0000000012 base 2;", 1);
        badAtLast("roll length 13", 2);
        badAtLast("roll length 4294967297", 2);
        badAtLast("roll length 18446744073709551617", 2);
        edges.term("I", "base 2 .. 16");
        badAtLast("roll length 1 base 0", 2);
        badAtLast("roll length 1 base 1", 2);
        good("roll length 1 base 2;", 1);
        good("roll length 1 base 16;", 1);
        badAtLast("roll length 1 base 17", 2);
        badAtLast("roll length 1 base 4294967298", 2);
    }

    private void tickets() {
        edges.term("I", "TICKETS (base to the length) 20,000 at most (else base is not as said)");
        int[] greatest = {16, 16, 16, 11, 7, 5, 4, 3, 3, 2, 2, 2};
        for (int length = 1; length <= 12; length++) {
            int base = greatest[length - 1];
            long tickets = Math.round(Math.pow(base, length));
            edges.holds("a greater base has more", base == 16 || Math.pow(base + 1, length) > 20000);
            LuckyTicket x = Check.rolled("roll length " + length + " base " + base + ";");
            edges.due("TICKETS of length " + length, x.count(2), tickets);
            edges.holds("the last TICKET", x.laws((int) tickets - 1) == 0);
            edges.due("behind the last TICKET", x.laws((int) tickets), -2);
            badAtLast("roll length " + length + " base " + (base + 1), 2);
        }
    }

    private void laws() {
        edges.term("I", "LAWS 0 .. 8 are numbered as they stand");
        StringBuilder text = new StringBuilder("roll length 8 base 2;");
        for (int sum = 0; sum <= 8; sum++) {
            text.append("law sum ").append(sum).append(';');
        }
        LuckyTicket x = Check.rolled(text.toString());
        int[] many = {1, 8, 28, 56, 70, 56, 28, 8, 1};
        for (int law = 0; law <= 8; law++) {
            edges.due("many(" + law + ")", x.many(law), many[law]);
        }
        edges.due("LAWS", x.count(3), 9);
        edges.due("many(9)", x.many(9), -2);
        edges.due("many(-1)", x.many(-1), -2);
        LuckyTicket without = Check.rolled(HEAD);
        edges.due("LAWS", without.count(3), 0);
        edges.due("many(0)", without.many(0), -2);
    }

    private void joins() {
        edges.term("I", "LAW: PART {or PART}, where PART: KIND {and KIND}, and KIND: not KIND | ( LAW )");
        LuckyTicket x = Check.rolled(HEAD + "law sum 0 or sum 1 and sum 2;law (sum 0 or sum 1) and sum 2;"
                + "law not sum 0 and sum 1;law not (sum 0 and sum 1);law not sum 0 or sum 0;law not not sum 0;");
        int[] many = {1, 0, 2, 4, 4, 1};
        for (int law = 0; law < many.length; law++) {
            edges.due("many(" + law + ")", x.many(law), many[law]);
        }
        bad(HEAD + "law ;", 1, 25);
        bad(HEAD + "law ()", 1, 26);
        bad(HEAD + "law not;", 1, 28);
        bad(HEAD + "law or half", 1, 25);
        bad(HEAD + "law half or;", 1, 32);
        bad(HEAD + "law half and;", 1, 33);
        bad(HEAD + "law half not odd", 1, 30);
        bad(HEAD + "law half (odd)", 1, 30);
        bad(HEAD + "law half odd", 1, 30);
        bad(HEAD + "law (half;", 1, 30);
        bad(HEAD + "law half);", 1, 29);
    }

    private void sums() {
        edges.term("I", "N of sum 0 .. 180");
        good(HEAD + "law sum 0;", 2);
        good(HEAD + "law sum 180;", 2);
        badAtLast(HEAD + "law sum 181", 2);
        badAtLast(HEAD + "law sum 4294967296", 2);
        badAtLast(HEAD + "law sum 99999999999999999999999999", 2);
        bad(HEAD + "law sum -1;", 1, 29);
    }

    private void rests() {
        edges.term("I", "of: 1 .. 20, rest 0 .. 19");
        good(HEAD + "law rest 0 of 1;", 2);
        good(HEAD + "law rest 0 of 20;", 2);
        good(HEAD + "law rest 19 of 20;", 2);
        badAtLast(HEAD + "law rest 20", 2);
        badAtLast(HEAD + "law rest 0 of 0", 2);
        badAtLast(HEAD + "law rest 0 of 21", 2);
        badAtLast(HEAD + "law rest 19 of 21", 2);
        bad(HEAD + "law rest 21 of 22;", 2, 30);
    }

    private void lawsAhead() {
        edges.term("I", "by: a LAW told ahead");
        badAtLast(HEAD + "law by 0", 2);
        good(HEAD + "law half;law by 0;", 3);
        badAtLast(HEAD + "law half;law by 1", 2);
        badAtLast(HEAD + "law half;law not (odd or by 1", 2);
        badAtLast(HEAD + "law half;law by 2", 2);
        good(HEAD + "law half;".repeat(8) + "law by 7;", 10);
        badAtLast(HEAD + "law half;".repeat(8) + "law by 8", 2);
        badAtLast(HEAD + "law half;law by 4294967296", 2);
        LuckyTicket x = Check.rolled(HEAD + "law sum 0;law sum 1;law by 0;law by 1;law not by 0;law by 0 or by 1;"
                + "law by 5 and by 1;law by 6;law by 7;");
        int[] many = {1, 2, 1, 2, 3, 3, 2, 2, 2};
        for (int law = 0; law < many.length; law++) {
            edges.due("many(" + law + ")", x.many(law), many[law]);
        }
        edges.due("by 7", x.alike(8, 1), 1);
    }

    private void places() {
        edges.term("I", "places: PLACES 0 .. length less 1, unlike ones on each side");
        String twelve = "roll length 12 base 2;law places ";
        String all = "0 1 2 3 4 5 6 7 8 9 10 11 ";
        good(twelve + "0 like 11;", 2);
        good(twelve + all + "like " + all + ";", 2);
        badAtLast(twelve + "12", 2);
        badAtLast(twelve + "0 like 12", 2);
        badAtLast(twelve + all + "0", 2);
        badAtLast(twelve + all + "11", 2);
        badAtLast(twelve + all + "12", 2);
        badAtLast(twelve + all + "like " + all + "5", 2);
        good("roll length 1 base 16;law places 0 like 0;", 2);
        badAtLast("roll length 1 base 16;law places 1", 2);
        badAtLast("roll length 1 base 16;law places 0 like 1", 2);
        badAtLast("roll length 1 base 16;law places 0 0", 2);
        bad(HEAD + "law places like 0;", 1, 32);
        bad(HEAD + "law places 0 like;", 1, 38);
        bad(HEAD + "law places 0;", 1, 33);
    }

    /** Behind the last ; nothing but a blank can stand: not one of all other bytes. */
    private void blanks() {
        edges.term("I", "TOKENS, blanks (32, 10) aside");
        for (int b = 0; b < 256; b++) {
            if (b == 32 || b == 10) {
                good(HEAD + (char) b, 1);
                good((char) b + "roll" + (char) b + "length 2 base 2" + (char) b + ";", 1);
            } else {
                bad(HEAD + (char) b, 1, 21);
            }
        }
        good("\n \n", 0);
    }

    /** A letter makes the word ahead of it longer; all else is a TOKEN of its own, or none. */
    private void letters() {
        edges.term("I", "the longest: words (a .. z)");
        for (int b = 0; b < 256; b++) {
            String text = "roll" + (char) b + ";";
            if (b == 32 || b == 10) {
                bad(text, 1, 5);
            } else {
                bad(text, 1, b >= 'a' && b <= 'z' ? 0 : 4);
            }
        }
        bad("rol l", 1, 0);
        String all = "roll length 2 base 2;law not half or odd and mirror or unlike or square or sum 0 or rest 0 of 1 or places 0 like 1;law by 0;";
        good(all, 3);
        for (int i = 0; i < all.length(); i++) {
            if (Character.isLetter(all.charAt(i))) {
                int start = i;
                while (start > 0 && Character.isLetter(all.charAt(start - 1))) {
                    start--;
                }
                bad(all.substring(0, i) + "z" + all.substring(i + 1), 1, start);
            }
        }
        bad(HEAD + "law halfodd;", 1, 25);
        bad(HEAD + "lawhalf;", 1, 21);
        good("roll length2base2;law sum1or rest0of2and places0like1;", 2);
    }

    /** A digit makes the number ahead of it greater than 12; all else leaves it 9, and can't stand there. */
    private void digits() {
        edges.term("I", "numbers (digits)");
        for (int b = 0; b < 256; b++) {
            String text = "roll length 9" + (char) b + ";";
            if (b >= '0' && b <= '9') {
                bad(text, 2, 12);
            } else if (b == 32 || b == 10) {
                bad(text, 1, 14);
            } else {
                bad(text, 1, 13);
            }
        }
        good("roll length 02 base 000000000000000000000000000002;", 1);
    }

    private void signs() {
        edges.term("I", "the signs ; ( ) .");
        good(HEAD + "law((half));", 2);
        for (String sign : new String[] {"[", "]", "{", "}", ",", ":", ".", "-", "+", "&", "|", "!", "\t", "\r", "\0"}) {
            bad(HEAD + "law " + sign + "half;", 1, 25);
            bad(HEAD + "law half" + sign + ";", 1, 29);
        }
    }

    private void firstByPlace() {
        edges.term("I", "the first by its place (a TOKEN's first byte; the end's)");
        bad(HEAD + "law sum 181 or ?;", 2, 29);
        bad(HEAD + "law sum ? or sum 181;", 1, 29);
        bad(HEAD + "law " + "not ".repeat(7) + "sum 181", 3, 49);
        bad(HEAD + "law sum 181 or " + "not ".repeat(7), 2, 29);
        bad("\n\n  rollroll", 1, 4);
        bad("roll length  \n 99", 2, 15);
        bad("roll length 2 base 2 \n", 1, 22);
        bad(HEAD + "law half" + "\n".repeat(1171), 1, 1200);
        bad("roll length 2 base 2" + " ".repeat(1179) + "x", 1, 1199);
    }

    private void leastOfOnePlace() {
        edges.term("I", "of one place the least");
        bad(HEAD + "law half 999;", 1, 30);
        bad("roll 99", 1, 5);
        bad(HEAD + "law half;".repeat(8) + "law half law", 1, 21 + 72 + 9);
        bad(HEAD + "law half;".repeat(9) + "laws", 1, 21 + 81);
        bad(HEAD + "law " + "(".repeat(6) + "half(", 1, 25 + 10);
        bad(HEAD + "law " + "(".repeat(6) + "half not", 1, 25 + 11);
        bad(HEAD + "law half" + " or half".repeat(23) + " or or", 1, 29 + 23 * 8 + 4);
        bad(HEAD + "law half" + " or half".repeat(23) + " or and", 1, 29 + 23 * 8 + 4);
    }

    private void cannotStand() {
        edges.term("I", "1 a TOKEN that is none, or can't stand there (roll behind the first LINE, another word ahead of it)");
        bad("?", 1, 0);
        bad("lengths 2", 1, 0);
        bad("length 2 base 2;", 1, 0);
        bad("2", 1, 0);
        bad("roll 2", 1, 5);
        bad("roll base 2 length 2;", 1, 5);
        bad("roll length base", 1, 12);
        bad("roll length 2 2", 1, 14);
        bad("roll length 2 base ;", 1, 19);
        bad("roll length 2 base 2 law half;", 1, 21);
        bad(HEAD + "roll", 1, 21);
        bad(HEAD + "half;", 1, 21);
        bad(HEAD + "law roll", 1, 25);
        bad(HEAD + "law law", 1, 25);
        bad(HEAD + "law 2", 1, 25);
        bad(HEAD + "law rest 0 0", 1, 32);
        bad(HEAD + "law by half", 1, 28);
        bad(HEAD + "law places 0 1 or", 1, 36);
        bad(HEAD + "law like", 1, 25);
        bad(HEAD + "law of", 1, 25);
    }

    private void notAsSaid() {
        edges.term("I", "2 a number out of its bounds, not as said (rest that is not below of: at of's number; a PLACE twice on a side)");
        badAtLast(HEAD + "law rest 1 of 1", 2);
        badAtLast(HEAD + "law rest 2 of 1", 2);
        badAtLast(HEAD + "law rest 19 of 19", 2);
        good(HEAD + "law rest 18 of 19;", 2);
        badAtLast(HEAD + "law places 1 1", 2);
        badAtLast(HEAD + "law places 1 0 1", 2);
        badAtLast(HEAD + "law places 1 0 like 0 0", 2);
        badAtLast(HEAD + "law places 1 01", 2);
        good(HEAD + "law places 1 0 like 0 1;", 2);
    }

    private void tenthLaw() {
        edges.term("I", "3 a 10th law, at its word");
        good(HEAD + "law half;".repeat(9), 10);
        bad(HEAD + "law half;".repeat(10), 3, 21 + 81);
        bad(HEAD + "law half;".repeat(9) + "law", 3, 21 + 81);
        bad(HEAD + "law half;".repeat(9) + "  law ?", 3, 21 + 83);
    }

    private void nested() {
        edges.term("I", "a seventh of not and ( within others (at it)");
        good(HEAD + "law " + "not ".repeat(6) + "half;", 2);
        good(HEAD + "law " + "(".repeat(6) + "half" + ")".repeat(6) + ";", 2);
        good(HEAD + "law " + "not(".repeat(3) + "half" + ")".repeat(3) + ";", 2);
        bad(HEAD + "law " + "not ".repeat(7) + "half;", 3, 25 + 24);
        bad(HEAD + "law " + "(".repeat(7) + "half", 3, 25 + 6);
        bad(HEAD + "law " + "not(".repeat(3) + "not half", 3, 25 + 12);
        bad(HEAD + "law " + "(not ".repeat(3) + "(half", 3, 25 + 15);
        // those that stand beside one another are not within one another
        good(HEAD + "law " + "not half and ".repeat(7) + "(half);", 2);
        good(HEAD + "law ((((((half)))))) and not not not not not not half;", 2);
        bad(HEAD + "law ((((((half)))))) and ((((((half or not", 3, 25 + 35);
    }

    private void joined() {
        edges.term("I", "a 25th of and, or in a LAW (at it)");
        good(HEAD + "law half" + " or half".repeat(24) + ";", 2);
        good(HEAD + "law half" + " and half".repeat(24) + ";", 2);
        good(HEAD + ("law half" + " or half".repeat(24) + ";").repeat(2), 3);
        bad(HEAD + "law half" + " or half".repeat(25), 3, 29 + 24 * 8 + 1);
        bad(HEAD + "law half" + " and half".repeat(25), 3, 29 + 24 * 9 + 1);
        bad(HEAD + "law half" + " or half".repeat(24) + " and", 3, 29 + 24 * 8 + 1);
        bad(HEAD + "law half" + " and half".repeat(24) + " or", 3, 29 + 24 * 9 + 1);
        bad(HEAD + "law half" + " or half".repeat(12) + " and half".repeat(12) + " or", 3, 29 + 12 * 17 + 1);
        bad(HEAD + "law (half" + " or half".repeat(24) + ") or", 3, 30 + 24 * 8 + 2);
    }

    private void rows() {
        edges.term("I", "SLOTS 0 .. 3 have rows of numbers of 1, 2, 4 or 8 bytes (WIDTH 0 .. 3), at most 60, or nothing.");
        LuckyTicket x = Check.rolled("roll length 1 base 2;law mirror;");
        edges.bounds("judge(slot)", slot -> x.judge(slot, 0), 0, 3);
        for (int slot = 0; slot <= 3; slot++) {
            edges.due("nothing in " + slot, x.judge(slot, 0), -6);
            edges.due("60 numbers in " + slot, x.row(slot, slot, 60), 0);
            edges.due("all 60", x.judge(slot, 0), 60);
            edges.due("61 numbers in " + slot, x.row(slot, slot, 61), -2);
            int bits = 8 << slot;
            edges.due("the highest bit", x.write(slot, 0, 1L << bits - 1), 0);
            edges.due("the highest bit", x.judge(slot, 0), 0);
            edges.due("the bit above it", x.write(slot, 0, slot == 3 ? 0 : 1L << bits), 0);
            edges.due("the bit above it", x.judge(slot, 0), 60);
        }
    }
}
