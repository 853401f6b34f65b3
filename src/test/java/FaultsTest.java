/** Promises 2 to 5: the tape, the roll's text, its faults and their places. */
public final class FaultsTest {
    private static final Check CHECK = new Check();
    private static final String HEAD = "roll length 2 base 2;";

    public static void main(String[] args) {
        tape();
        goodTexts();
        tokens();
        numbers();
        limits();
        faultsLeaveTheRoll();
        CHECK.finish();
    }

    private static void tape() {
        LuckyTicket x = new LuckyTicket();
        CHECK.due("tape at first", x.count(5), 0);
        CHECK.due("end(0) of nothing", x.end(0), 0);
        CHECK.due("end(1) of nothing", x.end(1), -1);
        CHECK.due("end(-1)", x.end(-1), -1);
        for (int i = 1; i <= 60; i++) {
            CHECK.due("feed " + i, x.feed(0, 1, -1, Integer.MIN_VALUE, Integer.MAX_VALUE), 20 * i);
        }
        CHECK.due("feed 61", x.feed(0, 0, 0, 0, 0), -1);
        CHECK.due("none came", x.count(5), 1200);
        CHECK.due("end(1201)", x.end(1201), -1);
        CHECK.due("end(1181)", x.end(1181), 1181);
        CHECK.due("feed into 1181", x.feed(0, 0, 0, 0, 0), -1);
        CHECK.due("end(1180)", x.end(1180), 1180);
        CHECK.due("feed into 1180", x.feed(0, 0, 0, 0, 0), 1200);
        CHECK.due("end(-1) again", x.end(-1), -1);
        CHECK.due("nothing happened", x.count(5), 1200);
        CHECK.due("end(0)", x.end(0), 0);
        CHECK.due("tape at last", x.count(5), 0);
    }

    private static void goodTexts() {
        good("", 0);
        good(" \n  \n", 0);
        good(HEAD, 1);
        good("\n roll\nlength 002 base\n2 ; ", 1);
        good("roll length2base2;law sum1or by0;", -4);
        good("roll length2base2;law sum1;law sum1or by0and(half)or not(odd);", 3);
        good("roll length 12 base 2;", 1);
        good("roll length 1 base 16;", 1);
        good("roll length 4 base 11;", 1);
        good("roll length 9 base 3;", 1);
        good(HEAD + "law sum 180;law sum 0;law rest 19 of 20;law rest 0 of 1;", 5);
        good("roll length 3 base 2;law places 0 1 2 like 2 1 0;law places 0 like 0;", 3);
        good(HEAD + "law half;".repeat(9), 10);
        good(HEAD + "law " + "not ".repeat(6) + "half;", 2);
        good(HEAD + "law " + "(".repeat(6) + "half" + ")".repeat(6) + ";", 2);
        good(HEAD + "law (not(not(not half))) and (not(not(not half)));", 2);
        good(HEAD + "law half" + " or half".repeat(12) + " and half".repeat(12) + ";law half or odd;", 3);
    }

    private static void tokens() {
        bad(";", 1, 0);
        bad("law half", 1, 0);
        bad(" law half;" + HEAD, 1, 1);
        bad("rolls length 2 base 2;", 1, 0);
        bad("Roll length 2 base 2;", 1, 0);
        bad("roll lengt 2 base 2;", 1, 5);
        bad("roll length base 2;", 1, 12);
        bad("roll length 4;", 1, 13);
        bad("roll length 2 base", 1, 18);
        bad("roll length 2 base 2", 1, 20);
        bad("roll length 2 base 2  \n", 1, 23);
        bad("roll length 2 base 2 3;", 1, 21);
        bad("roll length -2 base 2;", 1, 12);
        bad("roll length 2\tbase 2;", 1, 13);
        bad(HEAD + ";", 1, 21);
        bad(HEAD + HEAD, 1, 21);
        bad(HEAD + "half;", 1, 21);
        bad(HEAD + "law;", 1, 24);
        bad(HEAD + "law", 1, 24);
        bad(HEAD + "law half", 1, 29);
        bad(HEAD + "law halfodd;", 1, 25);
        bad(HEAD + "law halfz;", 1, 25);
        bad(HEAD + "law zhalf;", 1, 25);
        bad(HEAD + "law half half;", 1, 30);
        bad(HEAD + "law half);", 1, 29);
        bad(HEAD + "law (half;", 1, 30);
        bad(HEAD + "law (half", 1, 30);
        bad(HEAD + "law ();", 1, 26);
        bad(HEAD + "law not;", 1, 28);
        bad(HEAD + "law and half;", 1, 25);
        bad(HEAD + "law half or;", 1, 32);
        bad(HEAD + "law half and or half;", 1, 34);
        bad(HEAD + "law sum;", 1, 28);
        bad(HEAD + "law sum half;", 1, 29);
        bad(HEAD + "law rest 1 2;", 1, 32);
        bad(HEAD + "law rest 1 of;", 1, 34);
        bad(HEAD + "law by;", 1, 27);
        bad(HEAD + "law places like 0;", 1, 32);
        bad(HEAD + "law places 0;", 1, 33);
        bad(HEAD + "law places 0 like;", 1, 38);
        bad(HEAD + "law places 0 like like;", 1, 39);
        bad(HEAD + "law places 0 like 1 like 1;", 1, 41);
        bad(HEAD + "law half_;", 1, 29);
        bad(HEAD + "law half\0;", 1, 29);
        bad(HEAD + "law half" + (char) 233 + ";", 1, 29);
        bad(HEAD + "law half;law half;roll", 1, 39);
        bad(HEAD + "law law half;", 1, 25);
        bad(HEAD + "law half, odd;", 1, 29);
    }

    private static void numbers() {
        bad("roll length 0 base 2;", 2, 12);
        bad("roll length 13", 2, 12);
        bad("roll length 99999999999999999999 base 2;", 2, 12);
        bad("roll length 4294967298 base 2;", 2, 12);
        bad("roll length 2 base 1;", 2, 19);
        bad("roll length 2 base 17;", 2, 19);
        bad("roll length 12 base 3;", 2, 20);
        bad("roll length 4 base 12;", 2, 19);
        bad("roll length 10 base 3;", 2, 20);
        bad(HEAD + "law sum 181", 2, 29);
        bad(HEAD + "law rest 20 of 20", 2, 30);
        bad(HEAD + "law rest 3 of 3", 2, 35);
        bad(HEAD + "law rest 4 of 3", 2, 35);
        bad(HEAD + "law rest 0 of 0", 2, 35);
        bad(HEAD + "law rest 19 of 21", 2, 36);
        bad(HEAD + "law by 0", 2, 28);
        bad(HEAD + "law half;law by 1", 2, 37);
        bad(HEAD + "law half;law by 0 or by 4294967296", 2, 45);
        bad(HEAD + "law places 2", 2, 32);
        bad(HEAD + "law places 0 0", 2, 34);
        bad(HEAD + "law places 0 1 like 1 0 1", 2, 45);
        bad(HEAD + "law places 0 like 1 2", 2, 41);
        bad("roll length 12 base 2;law places 0 1 2 3 4 5 6 7 8 9 10 11 0", 2, 59);
    }

    private static void limits() {
        bad(HEAD + "law half;".repeat(10), 3, 21 + 81);
        bad(HEAD + "law half;".repeat(9) + "law", 3, 21 + 81);
        bad(HEAD + "law half;".repeat(9) + "roll", 1, 21 + 81);
        bad(HEAD + "law " + "not ".repeat(7) + "half", 3, 25 + 24);
        bad(HEAD + "law " + "(".repeat(7) + "half", 3, 25 + 6);
        bad(HEAD + "law " + "not(".repeat(4) + "half", 3, 25 + 12);
        bad(HEAD + "law not half and " + "not ".repeat(7) + "half", 3, 38 + 24);
        bad(HEAD + "law half" + " or half".repeat(25), 3, 29 + 24 * 8 + 1);
        bad(HEAD + "law half" + " and half".repeat(25), 3, 29 + 24 * 9 + 1);
        bad(HEAD + "law (half" + " and half".repeat(20) + ")" + " or half".repeat(5), 3,
                30 + 20 * 9 + 1 + 4 * 8 + 1);
        bad(HEAD + "law half" + " or half".repeat(24) + " half", 1, 29 + 24 * 8 + 1);
        bad(HEAD + "law " + "not ".repeat(6) + "or", 1, 25 + 24);
    }

    private static void faultsLeaveTheRoll() {
        LuckyTicket x = new LuckyTicket();
        CHECK.due("fault(0) ahead of any", x.fault(0), 0);
        CHECK.due("fault(1) ahead of any", x.fault(1), -1);
        CHECK.due("fault(2) ahead of any", x.fault(2), -1);
        Check.feed(x, "roll length 2 base 3;law half;");
        CHECK.due("roll", x.roll(), 2);
        CHECK.due("the tape is empty then", x.count(5), 0);
        Check.feed(x, "roll length 3 base 2;law odd;law by 7;");
        CHECK.due("roll with a fault", x.roll(), -4);
        CHECK.due("fault(0)", x.fault(0), 2);
        CHECK.due("fault(1)", x.fault(1), 36);
        CHECK.due("fault(2)", x.fault(2), -1);
        CHECK.due("fault(-1)", x.fault(-1), -1);
        CHECK.due("TICKETS stay", x.count(2), 9);
        CHECK.due("LAWS stay", x.count(3), 1);
        CHECK.due("LINES stay", x.count(4), 2);
        CHECK.due("luck stays", x.laws(1), 0);
        CHECK.due("luck stays", x.laws(4), 1);
        CHECK.due("the TAPE stays", x.count(5), 38);
        CHECK.due("the same once more", x.roll(), -4);
        CHECK.due("the same once more", x.fault(1), 36);
        CHECK.due("cut at the fault", x.end(x.fault(1)), 36);
        Check.feed(x, "0;");
        CHECK.due("and told anew", x.roll(), 3);
        CHECK.due("and told anew", x.count(2), 8);
        CHECK.due("the tape is empty then", x.count(5), 0);
        Check.feed(x, "roll length 1 base 2;");
        CHECK.due("roll in place of another", x.roll(), 1);
        CHECK.due("no fault", x.fault(0), 0);
        CHECK.due("no place", x.fault(1), -1);
        CHECK.due("TICKETS", x.count(2), 2);
        CHECK.due("no LAW", x.many(0), -2);
        CHECK.due("roll of nothing", x.roll(), 0);
        CHECK.due("there is none then", x.count(2), 0);
        CHECK.due("there is none then", x.laws(0), -2);
    }

    private static void good(String text, int lines) {
        LuckyTicket x = new LuckyTicket();
        Check.feed(x, text);
        CHECK.due("roll of " + text, x.roll(), lines);
        if (lines >= 0) {
            CHECK.due("fault of " + text, x.fault(0), 0);
            CHECK.due("place of " + text, x.fault(1), -1);
            CHECK.due("LINES of " + text, x.count(4), lines);
        }
    }

    private static void bad(String text, int fault, int place) {
        LuckyTicket x = new LuckyTicket();
        Check.feed(x, text);
        CHECK.due("roll of " + text, x.roll(), -4);
        CHECK.due("fault of " + text, x.fault(0), fault);
        CHECK.due("place of " + text, x.fault(1), place);
        CHECK.due("LINES of " + text, x.count(4), 0);
    }
}
