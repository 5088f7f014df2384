import java.util.ArrayList;
import java.util.List;

/** HEATS, PRICES, FORCE, TEXTS, what is DUE, what is SETTLED, and gauges, at the edges that the document names in III. */
public final class EdgesOfContractsTest extends Edges {

    /** LANDING 0: ten tons an HOUR at terminal 1, from an HOUR (3 at least) on for so many HOURS; NOW is behind it. */
    private static Told landed(int first, int hours) {
        Told x = new Told();
        x.terminal(9000, 9000, 4000, 30);
        x.terminal(0, 9000, 10, 30);
        x.ship(0, 1000, 1);
        x.terms(0, 1000);
        x.way(0, 1, 1, false);
        x.slot(0, 0, 0, 2399);
        x.slot(1, 0, 0, 2399);
        x.order(0, LOAD, 980);
        x.order(0, SAIL, 1);
        x.order(0, WAIT, first - 1);
        x.order(0, LAND, 10 * hours);
        for (int left = first + hours; left > 0; left -= Math.min(480, left)) {
            x.go(Math.min(480, left));
        }
        due(x.landing(0, 2), first);
        due(x.landing(0, 3), first + hours - 1);
        return x;
    }

    // ---------------------------------------------------------------- heat, prices, force, bills

    private static void heats() {
        says("HEAT of a TERMINAL's gas (500 .. 2000; 1000 at first): what it was");
        Told x = landed(3, 1);
        due(x.landing(0, 5), 1000);
        due(x.heat(0, 500), 1000);
        due(x.landing(0, 5), 500);
        due(x.heat(0, 2000), 500);
        due(x.landing(0, 5), 2000);
        due(x.heat(0, 2001), -1);
        due(x.heat(0, 499), -1);
        due(x.heat(0, 700), 2000);
        due(x.heat(1, 700), 1000);
        says("of a LANDING the sum of PARTS times HEATS through tons, cut");
        int[][] all = {{1000, 1001, 1000}, {1001, 1000, 1000}, {1000, 1002, 1001}, {1000, 1003, 1002}, {500, 2000, 1500},
            {2000, 500, 1000}, {999, 1000, 999}, {1002, 1000, 1000}, {1003, 1000, 1001}};
        for (int[] h : all) {
            Told y = thirds();
            y.heat(0, h[0]);
            y.heat(1, h[1]);
            due(y.landing(0, 5), h[2]);
            contract(y, "pay heat");
            due(y.due(0, 0, 0, 0), h[2]);
        }
    }

    /** A LANDING of three tons, one of terminal 0, two of terminal 1. */
    private static Told thirds() {
        Told x = new Told();
        x.terminal(9000, 9000, 4000, 30);
        x.terminal(9000, 10_000, 4000, 30);
        x.ship(0, 1000, 1);
        x.terms(0, 1000);
        x.way(0, 1, 1, false);
        x.slot(0, 0, 0, 9);
        x.slot(1, 0, 0, 9);
        x.order(0, LOAD, 100);
        x.order(0, SAIL, 1);
        x.order(0, LOAD, 200);
        x.order(0, LAND, 3);
        x.go(4);
        due(x.led(0, 0), 1);
        due(x.led(0, 1), 2);
        return x;
    }

    private static void pricesOfDays() {
        says("price: that of its last HOUR's DAY as known");
        int[][] days = {{3, 1, 0}, {23, 1, 0}, {22, 2, 0}, {23, 2, 1}, {24, 1, 1}, {47, 1, 1}, {47, 2, 2}, {24, 25, 2},
            {2375, 1, 98}, {2376, 1, 99}, {2370, 9, 99}, {2398, 1, 99}};
        for (int[] d : days) {
            Told x = landed(d[0], d[1]);
            contract(x, "pay price");
            for (int day = Math.max(0, d[2] - 1); day <= Math.min(99, d[2] + 1); day++) {
                x.price(day, 100 + day - d[2], 0);
            }
            due(x.due(0, 0, 0, 4), 100);
            due(x.due(0, 0, 0, 0), 100);
        }
        says("of those known and not behind the DAY that of the latest DAY");
        Told x = landed(60, 1);
        contract(x, "pay price");
        due(x.price(3, 9, 0), 1);
        due(x.due(0, 0, 2399, 4), 0);
        due(x.price(0, 5, 0), 2);
        due(x.due(0, 0, 0, 4), 5);
        due(x.price(2, 7, 10), 3);
        due(x.due(0, 0, 9, 4), 5);
        due(x.due(0, 0, 10, 4), 7);
        due(x.price(1, 6, 0), 4);
        due(x.due(0, 0, 9, 4), 6);
        due(x.due(0, 0, 10, 4), 7);
        says("of alike ones told last; 0 without");
        due(x.price(2, 8, 20), 5);
        due(x.due(0, 0, 19, 4), 7);
        due(x.due(0, 0, 20, 4), 8);
        due(x.price(2, 0, 15), 6);
        due(x.due(0, 0, 14, 4), 7);
        due(x.due(0, 0, 15, 4), 0);
        due(x.due(0, 0, 2399, 4), 0);
        due(x.price(2, 10_000, 2399), 7);
        due(x.due(0, 0, 2398, 4), 0);
        due(x.due(0, 0, 2399, 4), 10_000);
        Told y = landed(60, 1);
        contract(y, "pay price+1");
        due(y.due(0, 0, 0, 4), 0);
        due(y.due(0, 0, 0, 0), 1);
    }

    /** The window ends with HOUR 9, the last HOUR is 19: ten HOURS are late. */
    private static void forceHours() {
        says("late: HOURS behind the window's end up to its last HOUR, less those of these that lie in a FORCE that is known");
        int[][] all = {{0, 9, 10}, {0, 10, 9}, {10, 10, 9}, {9, 10, 9}, {19, 19, 9}, {20, 20, 10}, {19, 20, 9}, {18, 2399, 8},
            {0, 2399, 0}, {10, 19, 0}, {11, 18, 2}, {11, 19, 1}, {20, 2399, 10}, {0, 0, 10}};
        for (int[] f : all) {
            Told x = landed(15, 5);
            contract(x, "window 0 to 9;fine late");
            due(x.due(0, 0, 0, 3), 10);
            x.force(f[0], f[1], 7);
            due(x.due(0, 0, 6, 3), 10);
            due(x.due(0, 0, 7, 3), f[2]);
            due(x.due(0, 0, 7, 2), f[2]);
            due(x.due(0, 0, 2399, 3), f[2]);
        }
        says("FORCE that holds just its hours");
        Told x = landed(15, 5);
        contract(x, "window 0 to 9;fine late");
        x.force(12, 14, 5);
        x.force(13, 15, 6);
        x.force(14, 14, 4);
        x.force(12, 15, 8);
        x.force(17, 17, 7);
        int[] late = {10, 10, 10, 10, 9, 7, 6, 5, 5};
        for (int known = 0; known < late.length; known++) {
            due(x.due(0, 0, known, 3), late[known]);
        }
        // One FORCE behind the other, up to the last HOUR.
        Told y = landed(15, 5);
        contract(y, "window 0 to 9;fine late");
        y.force(19, 19, 0);
        y.force(10, 17, 0);
        due(y.due(0, 0, 0, 3), 1);
        y.force(18, 18, 0);
        due(y.due(0, 0, 0, 3), 0);
        says("FORCE: how many times");
        due(x.force(0, 0, 0), 6);
        due(x.force(0, 0, 0), 7);
    }

    private static void bills() {
        says("billed (tons without a BILL)");
        Told x = landed(3, 2);
        contract(x, "pay billed");
        due(x.due(0, 0, 0, 0), 20);
        due(x.bill(0, 0), 0);
        due(x.due(0, 0, 0, 0), 0);
        due(x.landing(0, 4), 20);
        Told y = landed(3, 2);
        contract(y, "pay billed");
        due(y.bill(0, 200_000), 0);
        due(y.due(0, 0, 0, 0), 200_000);
        contract(y, "pay tons");
        due(y.due(0, 1, 0, 0), 20);
    }

    // ---------------------------------------------------------------- windows, places

    private static long dueOf(Told world, String text, int what) {
        Told x = world.copy();
        int number = contract(x, text);
        due(number, 0);
        return x.due(0, number, 0, what);
    }

    private static void windows() {
        Told x = landed(15, 5);
        says("early: HOURS by which its first HOUR is ahead of the window");
        due(dueOf(x, "window 14 to 99;pay early", 0), 0);
        due(dueOf(x, "window 15 to 99;pay early", 0), 0);
        due(dueOf(x, "window 16 to 99;pay early", 0), 1);
        due(dueOf(x, "window 2399 to 2399;pay early", 0), 2399 - 15);
        due(dueOf(x, "window 2399 to 2399;pay late", 0), 0);
        says("late: HOURS behind the window's end up to its last HOUR");
        due(dueOf(x, "window 0 to 20;pay late", 0), 0);
        due(dueOf(x, "window 0 to 19;pay late", 0), 0);
        due(dueOf(x, "window 0 to 18;pay late", 0), 1);
        due(dueOf(x, "window 0 to 14;pay late", 3), 5);
        due(dueOf(x, "window 0 to 0;pay late", 3), 19);
        due(dueOf(x, "window 0 to 0;pay early", 0), 0);
        due(dueOf(x, "window 17 to 17;pay late*100+early", 0), 202);
        says("Of \"window\", \"at\" the last counts; without: 0 to 2399, none");
        due(dueOf(x, "pay late*100+early", 0), 0);
        due(dueOf(x, "window 17 to 17;window 16 to 18;pay late*100+early", 0), 101);
        due(dueOf(x, "window 16 to 18;pay late*100+early;window 17 to 17", 0), 202);
        due(dueOf(x, "window 17 to 17;window 0 to 2399;pay late*100+early", 0), 0);
        says("without: 0 to 2399, none, whatever the TEXTS ahead say");
        Told after = x.copy();
        due(contract(after, "window 17 to 17;at 1;pay late*100+early*10+elsewhere"), 0);
        due(contract(after, "pay late*100+early*10+elsewhere"), 1);
        due(contract(after, "window 17 to 17;at 1;!"), -6);
        due(contract(after, "pay late*100+early*10+elsewhere"), 2);
        due(after.due(0, 0, 0, 0), 220);
        due(after.due(0, 1, 0, 0), 1);
        due(after.due(0, 2, 0, 0), 1);
        says("elsewhere: 1, if it isn't at \"at\", else 0");
        due(dueOf(x, "pay elsewhere", 0), 1);
        int[] there = {1, 0, 1, 1, 1, 1};
        for (int at = 0; at <= 5; at++) {
            due(dueOf(x, "at " + at + ";pay elsewhere", 0), there[at]);
        }
        due(dueOf(x, "at 1;at 0;pay elsewhere", 0), 1);
        due(dueOf(x, "at 0;pay elsewhere;at 1", 0), 0);
        says("hours: from its first to its last, with both");
        due(dueOf(x, "pay hours", 0), 5);
        due(dueOf(landed(3, 1), "pay hours", 0), 1);
        due(dueOf(landed(3, 2), "pay hours", 0), 2);
        says("Of a LANDING: tons");
        due(dueOf(x, "pay tons", 0), 50);
    }

    // ---------------------------------------------------------------- texts

    /** The place of the FAULT of a text, NONE without; its answers go together. */
    private static int faultOf(String text) {
        Told x = new Told();
        int got = contract(x, text);
        int fault = x.fault();
        due(got, fault == NONE ? 0 : -6);
        due(x.status(), fault == NONE ? 0 : -6);
        due(x.count(5), fault == NONE ? 1 : 0);
        due(x.count(8), 0);
        return fault;
    }

    private static void tokens() {
        says("TOKENS: longest rows of letters a .. z");
        due(faultOf("pay tons"), NONE);
        due(faultOf("paytons"), 0);
        due(faultOf("pay tonsif 1=1"), 4);
        due(faultOf("pay ton s"), 4);
        due(faultOf("pay tonss"), 4);
        due(faultOf("pa y 1"), 0);
        due(faultOf("payz 1"), 0);
        due(faultOf("paya 1"), 0);
        due(faultOf("zpay 1"), 0);
        due(faultOf("pay 1 az"), 6);
        due(faultOf("pay aay"), 4);
        due(faultOf("pay zzz"), 4);
        due(faultOf("p"), 0);
        says("of digits");
        due(faultOf("pay1"), NONE);
        due(faultOf("at5"), NONE);
        due(faultOf("window0to5"), NONE);
        due(faultOf("pay 1if1=1or2=2and3=3"), NONE);
        due(faultOf("pay 12 3"), 7);
        due(faultOf("pay 1tons"), 5);
        due(faultOf("1"), 0);
        says("single other bytes");
        due(faultOf("pay 1;;pay 1"), 6);
        due(faultOf("pay [[1]]"), NONE);
        due(faultOf("pay 1++1"), 6);
        due(faultOf("pay 1 if 1<=1"), 11);
        due(faultOf("pay 1:2"), 5);
        due(faultOf("pay 1/2"), NONE);
        due(faultOf("pay `tons"), 4);
        due(faultOf("pay tons{"), 8);
        due(faultOf("pay @tons"), 4);
        due(faultOf("PAY 1"), 0);
        due(faultOf("pay Tons"), 4);
        due(faultOf("pay tonS"), 4);
        says("any blanks (32) between");
        due(faultOf("  pay   1  ;  pay   2  "), NONE);
        due(faultOf("pay[1+1]*2;fine[tons]if(1<2)"), NONE);
        for (int sign = 0; sign < 256; sign++) {
            boolean blank = sign == 32;
            boolean digit = sign >= '0' && sign <= '9';
            due(faultOf("pay 1 " + (char) sign), blank ? NONE : sign == ';' || sign == '+' || sign == '-' || sign == '*'
                    || sign == '/' ? 7 : 6);
            due(faultOf("pay " + (char) sign), digit ? NONE : blank || sign == '[' ? 5 : 4);
            due(faultOf((char) sign + "pay 1"), blank ? NONE : 0);
        }
    }

    /** Each TOKEN of a good TEXT in its turn is left out with all behind it, or is one that can't be there. */
    private static void grammar() {
        says("FAULT: the first TOKEN that can't go on there (the end's: the TEXT's length)");
        // A star stands behind each TOKEN with which the TEXT may end.
        String[] texts = {
            "window 5 to 9* ; at 3* ; pay tons* + 2* * [ late - 1 ]* / heat* if not ( billed < 5 or price > 3 )* and hours = 2*",
            "fine early* - [ [ 1 + 2 ] * 3 ]* if elsewhere = 1* or 1 < 2* and not not 3 > 2* ; pay 100000* ; window 0 to 0*",
            "pay 1* if ( ( 1 = 1 and 2 = 2 ) or not ( 3 = 3 ) )* or [ 1 ] = 1* + 1* ; fine [ 1 ]*"};
        for (String marked : texts) {
            String[] tokens = marked.split(" ");
            StringBuilder ahead = new StringBuilder();
            for (String token : tokens) {
                boolean mayEnd = token.length() > 1 && token.endsWith("*");
                String plain = mayEnd ? token.substring(0, token.length() - 1) : token;
                due(faultOf(ahead + "!"), ahead.length());
                due(faultOf(ahead + " \u00e9 " + plain), ahead.length() + 1);
                due(faultOf(ahead + "zz"), ahead.length());
                ahead.append(plain);
                due(faultOf(ahead.toString()), mayEnd ? NONE : ahead.length());
                due(faultOf(ahead + "   "), mayEnd ? NONE : ahead.length() + 3);
                ahead.append(' ');
            }
        }
        due(faultOf(""), 0);
        due(faultOf(" "), 1);
        due(faultOf("   "), 3);
    }

    private static void clauses() {
        says("CLAUSE: \"window\" NUMBER \"to\" NUMBER | \"at\" NUMBER | (\"pay\" | \"fine\") SUM [\"if\" TEST]");
        due(faultOf("window 1 if 1=1"), 9);
        due(faultOf("at 1 if 1=1"), 5);
        due(faultOf("window 1 to 2 if 1=1"), 14);
        due(faultOf("window tons to 5"), 7);
        due(faultOf("window 1 to tons"), 12);
        due(faultOf("window [1] to 5"), 7);
        due(faultOf("at [1]"), 3);
        due(faultOf("at 1+1"), 4);
        due(faultOf("pay if 1=1"), 4);
        due(faultOf("pay 1 if 1=1 if 1=1"), 13);
        due(faultOf("if 1=1"), 0);
        due(faultOf("tons"), 0);
        due(faultOf("pay pay 1"), 4);
        due(faultOf("pay window"), 4);
        due(faultOf("pay 1 pay 1"), 6);
        due(faultOf("to 5"), 0);
        says("PLAIN: \"not\" PLAIN | \"(\" TEST \")\" | SUM (\"<\" | \">\" | \"=\") SUM");
        due(faultOf("pay 1 if tons"), 13);
        due(faultOf("pay 1 if not"), 12);
        due(faultOf("pay 1 if (tons)"), 14);
        due(faultOf("pay 1 if (1=1)=1"), 14);
        due(faultOf("pay 1 if ((1=1)"), 15);
        due(faultOf("pay 1 if (1=1))"), 14);
        due(faultOf("pay 1 if ()"), 10);
        due(faultOf("pay 1 if (1+1)=2"), 13);
        due(faultOf("pay 1 if [1+1]=2"), NONE);
        due(faultOf("pay 1 if [not 1=1]"), 10);
        due(faultOf("pay 1 if 1=1=1"), 12);
        due(faultOf("pay 1 if 1=1 not 1=1"), 13);
        due(faultOf("pay 1 if not not not not 1=1"), NONE);
        due(faultOf("pay 1 if or 1=1"), 9);
        due(faultOf("pay 1 if and 1=1"), 9);
        due(faultOf("pay 1 if 1=1 and and 1=1"), 17);
        says("PART: NUMBER | \"[\" SUM \"]\" | \"tons\" .. \"elsewhere\"");
        for (String word : "tons billed heat late early price hours elsewhere".split(" ")) {
            due(faultOf("pay " + word), NONE);
            due(faultOf("pay 1 if " + word + "=" + word), NONE);
            due(faultOf(word), 0);
            due(faultOf("pay 1 " + word), 6);
        }
        for (String word : "window at to pay fine if or and not".split(" ")) {
            due(faultOf("pay " + word), 4);
            due(faultOf("pay 1+" + word), 6);
        }
        due(faultOf("pay []"), 5);
        due(faultOf("pay [1"), 6);
        due(faultOf("pay 1]"), 5);
        due(faultOf("pay [1)"), 6);
        due(faultOf("pay (1)"), 4);
        due(faultOf("pay +1"), 4);
        due(faultOf("pay -1"), 4);
        due(faultOf("pay 1+-1"), 6);
        due(faultOf("pay *1"), 4);
    }

    /** A word with one letter changed, left out or put to it is another word. */
    private static void otherWords() {
        says("PART, CLAUSE: words are just these");
        String[] texts = {"window 1 to 2", "at 1", "pay 1", "fine 1", "pay tons", "pay billed", "pay heat", "pay late",
            "pay early", "pay price", "pay hours", "pay elsewhere", "pay 1 if 1=1", "pay 1 if 1=1 or 1=1",
            "pay 1 if 1=1 and 1=1", "pay 1 if not 1=1"};
        for (String text : texts) {
            due(faultOf(text), NONE);
            for (int n = 0; n < text.length(); n++) {
                char letter = text.charAt(n);
                if (letter >= 'a' && letter <= 'z') {
                    int begin = text.lastIndexOf(' ', n) + 1;
                    String ahead = text.substring(0, n);
                    String behind = text.substring(n + 1);
                    due(faultOf(ahead + (letter == 'z' ? 'y' : (char) (letter + 1)) + behind), begin);
                    due(faultOf(ahead + 'q' + letter + behind), begin);
                    due(faultOf(ahead + letter + 'q' + behind), begin);
                    due(faultOf(ahead + behind), begin);
                }
            }
        }
    }

    private static void numbers() {
        says("NUMBERS to 100,000");
        for (String ahead : new String[] {"pay ", "pay 1+", "fine 1 if 1<", "pay [", "pay 1 if ("}) {
            String behind = ahead.endsWith("[") ? "]" : ahead.endsWith("(") ? "=1)" : "";
            for (String good : new String[] {"0", "1", "99999", "100000", "0100000", "00000000000000000000100000", "000"}) {
                due(faultOf(ahead + good + behind), NONE);
            }
            for (String bad : new String[] {"100001", "0100001", "200000", "1000000", "2147483647", "2147483648", "4294967296",
                "4295067296", "9223372036854775808", "18446744073709551616", "100000000000000000000000000000000000000000"}) {
                due(faultOf(ahead + bad + behind), ahead.length());
            }
        }
        says("of \"window\" to 2399, the second not below the first");
        due(faultOf("window 0 to 0"), NONE);
        due(faultOf("window 0 to 2399"), NONE);
        due(faultOf("window 2399 to 2399"), NONE);
        due(faultOf("window 2400 to 2400"), 7);
        due(faultOf("window 0 to 2400"), 12);
        due(faultOf("window 5 to 5"), NONE);
        due(faultOf("window 5 to 4"), 12);
        due(faultOf("window 2399 to 2398"), 15);
        due(faultOf("window 02399 to 0002399"), NONE);
        due(faultOf("window 4294967296 to 5"), 7);
        due(faultOf("window 0 to 4294967296"), 12);
        due(faultOf("window 0 to 100001"), 12);
        due(faultOf("window -1 to 5"), 7);
        says("of \"at\" 0 .. 5");
        for (int at = 0; at <= 5; at++) {
            due(faultOf("at " + at), NONE);
        }
        due(faultOf("at 6"), 3);
        due(faultOf("at 00000005"), NONE);
        due(faultOf("at 0006"), 3);
        due(faultOf("at 100000"), 3);
        due(faultOf("at 4294967296"), 3);
        due(faultOf("at -1"), 3);
    }

    private static void manyClauses() {
        says("CLAUSE {\";\" CLAUSE}, 12 at most (FAULT at the 13th's first TOKEN)");
        String[] kinds = {"pay 1", "fine 1", "at 1", "window 1 to 2"};
        for (String kind : kinds) {
            String twelve = (kind + ";").repeat(11) + kind;
            due(faultOf(twelve), NONE);
            due(faultOf(twelve + ";" + kind), twelve.length() + 1);
            due(faultOf(twelve + "  ;  " + kind), twelve.length() + 5);
            due(faultOf(twelve + ";"), twelve.length() + 1);
            due(faultOf(twelve + "; "), twelve.length() + 2);
            due(faultOf(twelve + ";!"), twelve.length() + 1);
            due(faultOf(twelve + "!"), twelve.length());
            String eleven = (kind + ";").repeat(10) + kind;
            due(faultOf(eleven + ";"), eleven.length() + 1);
            due(faultOf(eleven + ";" + kind + ";"), eleven.length() + kind.length() + 2);
        }
        StringBuilder mixed = new StringBuilder();
        for (int n = 0; n < 12; n++) {
            mixed.append(n > 0 ? ";" : "").append(kinds[n % 4]);
        }
        due(faultOf(mixed.toString()), NONE);
        due(faultOf(mixed + ";at 1"), mixed.length() + 1);
        Told x = landed(3, 1);
        int number = contract(x, "pay 1;pay 2;pay 4;pay 8;pay 16;pay 32;pay 64;pay 128;pay 256;pay 512;pay 1024;pay 2048");
        due(x.due(0, number, 0, 0), 4095);
    }

    private static void manyParts() {
        says("50 NUMBERS and words that are PARTS by themselves (FAULT at the 51st)");
        String fifty = "pay 1" + "+1".repeat(49);
        due(faultOf(fifty), NONE);
        due(faultOf(fifty + "+1"), fifty.length() + 1);
        due(faultOf(fifty + "+tons"), fifty.length() + 1);
        due(faultOf(fifty + "+  tons"), fifty.length() + 3);
        due(faultOf(fifty + "+[tons]"), fifty.length() + 2);
        due(faultOf(fifty + "+"), fifty.length() + 1);
        due(faultOf(fifty + ";pay 1"), fifty.length() + 5);
        due(faultOf(fifty + " if 1=1"), fifty.length() + 4);
        due(faultOf(fifty + ";window 1 to 2;at 3"), NONE);
        due(faultOf("window 1 to 2;at 3;window 1 to 2;" + fifty), NONE);
        due(faultOf("window 1 to 2;at 3;window 1 to 2;" + fifty + "+1"), 33 + fifty.length() + 1);
        String words = "pay tons" + "+heat".repeat(24) + ";fine late" + "+1".repeat(24);
        due(faultOf(words), NONE);
        due(faultOf(words + "-price"), words.length() + 1);
        String test = "pay 1 if 1=1" + " or 1=1".repeat(23) + " or 1";
        due(faultOf(test + "<1"), test.length() + 1);
        due(faultOf(test.substring(0, test.length() - 5)), NONE);
        Told x = landed(3, 1);
        due(dueOf(x, fifty, 0), 50);
    }

    private static void manyBrackets() {
        says("8 brackets of both kinds within one another (FAULT at the 9th) at most");
        for (int round = 0; round <= 9; round++) {
            int square = 9 - round;
            String eight = "pay 1 if " + "(".repeat(round) + "[".repeat(Math.max(0, square - 1)) + "1"
                    + "]".repeat(Math.max(0, square - 1)) + "=1" + ")".repeat(round);
            String nine = "pay 1 if " + "(".repeat(round) + "[".repeat(square) + "1" + "]".repeat(square) + "=1"
                    + ")".repeat(round);
            if (round < 9) {
                due(faultOf(eight), NONE);
            }
            due(faultOf(nine), 17);
        }
        due(faultOf("pay " + "[".repeat(8) + "1" + "]".repeat(8)), NONE);
        due(faultOf("pay " + "[".repeat(9) + "1" + "]".repeat(9)), 12);
        due(faultOf("pay " + "[ ".repeat(9) + "1"), 20);
        due(faultOf("pay " + "[".repeat(9)), 12);
        due(faultOf("pay " + "[".repeat(8)), 12);
        // Those that are closed do not count any more.
        due(faultOf("pay [1]" + "+[1]".repeat(20)), NONE);
        due(faultOf("pay " + "[".repeat(7) + "[1]+[1]*[1]" + "]".repeat(7)), NONE);
        due(faultOf("pay " + "[".repeat(7) + "[1]+[[1]]" + "]".repeat(7)), 16);
        due(faultOf("pay 1 if " + "(".repeat(7) + "(1=1) and (1=1) or ([1]=1)" + ")".repeat(7)), 36);
        due(faultOf("pay 1 if " + "(".repeat(7) + "(1=1) and (1=1) or [1]=1" + ")".repeat(7)), NONE);
        due(faultOf("pay " + "[".repeat(8) + "1" + "]".repeat(8) + " if " + "(".repeat(8) + "1=1" + ")".repeat(8)), NONE);
        Told x = landed(3, 1);
        due(dueOf(x, "pay 2*[2*[2*[2*[2*[2*[2*[2*[1+1]]]]]]]]", 0), 512);
        due(dueOf(x, "pay 1 if ((((((((1=1))))))))", 0), 1);
        due(dueOf(x, "pay 7 if not (1=2 or (1=2 or (1=2 or (1=2 or (1=2 or (1=2 or (1=2 or (1=2))))))))", 0), 7);
        due(dueOf(x, "pay 1+2*[3+4*[5+6*[7+8*[9+10*[11+12*[13+14*[15+16*[17]]]]]]]]", 0), nested(1));
    }

    private static long nested(int n) {
        return n == 17 ? 17 : n + (n + 1) * nested(n + 2);
    }

    private static void fullTape() {
        says("on a TAPE of at most 400 bytes");
        String ahead = "pay 7";
        due(faultOf(ahead + " ".repeat(395)), NONE);
        due(faultOf(" ".repeat(395) + ahead), NONE);
        due(faultOf(" ".repeat(397) + "pay"), 400);
        due(faultOf(" ".repeat(399) + "!"), 399);
        due(faultOf(" ".repeat(400)), 400);
        due(faultOf("pay " + "0".repeat(395) + "7"), NONE);
        due(faultOf("pay 1 if " + "not ".repeat(97) + "1=1"), NONE);
        Told x = landed(3, 1);
        due(dueOf(x, "pay 5 if " + "not ".repeat(96) + "1=1", 0), 5);
        due(dueOf(x, "pay 5 if " + "not ".repeat(97) + "1=1", 0), 0);
        due(dueOf(x, "pay " + "0".repeat(395) + "7", 0), 7);
        says("Twenty bytes come behind the TAPE, four of each number, the highest first");
        Told y = landed(3, 1);
        due(y.feed(0x70617920, 0x5b313233, 0x34352b36, 0x5d2a375b, 0x5b5b5b5b), 20);
        due(y.end(15), 15);
        due(y.feed(0x3b66696e, 0x65203132, 0x33343520, 0x69662031, 0x3d312020), 35);
        due(y.contract(), 0);
        due(y.due(0, 0, 0, 1), 12_351 * 7);
        due(y.due(0, 0, 0, 2), 12_345);
    }

    private static void latestFault() {
        says("FAULT of the latest contract() that read a TEXT: its place; NONE without");
        Told x = new Told();
        due(x.fault(), NONE);
        due(x.contract(), -6);
        due(x.fault(), 0);
        due(contract(x, "pay 1 x"), -6);
        due(x.fault(), 6);
        feed(x, "pay");
        due(x.fault(), 6);
        due(x.end(2), 2);
        due(x.fault(), 6);
        due(contract(x, "pay 1"), 0);
        due(x.fault(), NONE);
        due(contract(x, "pay"), -6);
        due(x.fault(), 3);
        for (int n = 1; n < 11; n++) {
            due(contract(x, "pay 1"), n);
        }
        due(contract(x, "pay !"), -6);
        x.image(0);
        due(contract(x, "pay 1"), 11);
        due(x.fault(), NONE);
        due(contract(x, "pay !"), -5);
        due(x.fault(), NONE);
        says("IMAGES keep all but the TAPE, FAULT");
        x.back(0);
        due(x.fault(), NONE);
        due(contract(x, "!"), -6);
        due(x.fault(), 0);
        x.back(0);
        due(x.fault(), 0);
        due(contract(x, "pay 1"), 11);
        due(contract(x, "pay 12345 !"), -5);
        due(x.fault(), NONE);
    }

    // ---------------------------------------------------------------- what is DUE

    private static void sums() {
        Told x = landed(3, 1);
        long most = 1_000_000_000_000L;
        String top = "100000*100000*100";
        says("A SUM beyond 1,000,000,000,000 either way on its way is BROKEN");
        due(dueOf(x, "pay " + top, 0), most);
        due(dueOf(x, "pay " + top + "+0", 0), most);
        due(dueOf(x, "pay " + top + "+1", 0), 0);
        due(dueOf(x, "pay " + top + "+1-1", 0), 0);
        due(dueOf(x, "pay " + top + "-1+1", 0), most);
        due(dueOf(x, "pay 0-" + top, 0), -most);
        due(dueOf(x, "pay 0-" + top + "-1", 0), 0);
        due(dueOf(x, "pay 0-" + top + "-1+1", 0), 0);
        due(dueOf(x, "pay 1-" + top + "-1", 0), -most);
        due(dueOf(x, "pay [0-1]*" + top, 0), -most);
        due(dueOf(x, "pay 100000*100000*[0-100]", 0), -most);
        due(dueOf(x, "pay 100000*100000*[0-101]", 0), 0);
        due(dueOf(x, "pay 100000*100000*101", 0), 0);
        due(dueOf(x, "pay 100000*100000*101/101", 0), 0);
        due(dueOf(x, "pay 100000*100000/101*101", 0), 10_000_000_000L / 101 * 101);
        due(dueOf(x, "pay 99999*100000*100+99*100000+99999", 0), most - 1);
        due(dueOf(x, "pay 99999*100000*100+100*100000+1", 0), 0);
        due(dueOf(x, "pay 99999*100000*100+100*100000", 0), most);
        due(dueOf(x, "pay [" + top + "]*[" + top + "]", 0), 0);
        due(dueOf(x, "pay [" + top + "]*[0-" + top + "]", 0), 0);
        due(dueOf(x, "pay [" + top + "]*1", 0), most);
        due(dueOf(x, "pay [" + top + "]*2", 0), 0);
        due(dueOf(x, "pay [" + top + "]*0+5", 0), 5);
        due(dueOf(x, "pay 0*[" + top + "]+5", 0), 5);
        due(dueOf(x, "pay [" + top + "]/[" + top + "]", 0), 1);
        due(dueOf(x, "pay 0*[" + top + "+1]+5", 0), 0);
        // Products that would be small numbers again if they were wrapped around.
        due(dueOf(x, "pay 65536*65536*65536*65536+5", 0), 0);
        due(dueOf(x, "pay [65536*65536*16]*[65536*65536]+5", 0), 0);
        due(dueOf(x, "pay [65536*32768]*[65536*2]*[65536]*[65536]+5", 0), 0);
        for (int a = 26; a <= 39; a++) {
            for (int b = 64 - a; b <= 39; b++) {
                due(dueOf(x, "pay 1+[" + power(a) + "]*[" + power(b) + "]", 0), 0);
                due(dueOf(x, "pay 1+[" + power(a) + "]*[0-" + power(b) + "]", 0), 0);
            }
        }
        says("all \"pay\" whose \"if\" is so, less all such \"fine\": each SUM by itself");
        Told all = landed(3, 1);
        contract(all, ("pay " + top + ";").repeat(11) + "pay " + top);
        due(all.due(0, 0, 0, 0), 12 * most);
        contract(all, ("fine " + top + ";").repeat(11) + "fine " + top);
        due(all.due(0, 1, 0, 0), -12 * most);
        due(all.due(0, 1, 0, 2), 12 * most);
    }

    private static String power(int n) {
        return n < 16 ? String.valueOf(1 << n) : n < 32 ? "65536*" + (1 << n - 16) : "65536*65536*" + (1 << n - 32);
    }

    private static void quotients() {
        Told x = landed(3, 1);
        says("or divided by 0, is BROKEN");
        due(dueOf(x, "pay 5/0;pay 3", 0), 3);
        due(dueOf(x, "pay 0/0;pay 3", 0), 3);
        due(dueOf(x, "pay 5/[1-1];pay 3", 0), 3);
        due(dueOf(x, "pay 5/[0*5]*0;fine 3", 0), -3);
        due(dueOf(x, "pay 5/late;pay 3", 0), 3);
        due(dueOf(x, "pay 0/5+7", 0), 7);
        says("/ is cut towards 0");
        due(dueOf(x, "pay 7/2", 0), 3);
        due(dueOf(x, "pay [0-7]/2", 0), -3);
        due(dueOf(x, "pay 7/[0-2]", 0), -3);
        due(dueOf(x, "pay [0-7]/[0-2]", 0), 3);
        due(dueOf(x, "pay 1/2", 0), 0);
        due(dueOf(x, "pay [0-1]/2", 0), 0);
        due(dueOf(x, "pay [0-6]/2", 0), -3);
        due(dueOf(x, "pay 5/100000", 0), 0);
        says("SUM: TERM {(\"+\" | \"-\") TERM}. TERM: PART {(\"*\" | \"/\") PART}");
        due(dueOf(x, "pay 20-5-3", 0), 12);
        due(dueOf(x, "pay 20-[5-3]", 0), 18);
        due(dueOf(x, "pay 40/4/2", 0), 5);
        due(dueOf(x, "pay 40/[4/2]", 0), 20);
        due(dueOf(x, "pay 2*7/4", 0), 3);
        due(dueOf(x, "pay 7/4*2", 0), 2);
        due(dueOf(x, "pay 1+2*3-4/2", 0), 5);
        due(dueOf(x, "pay [1+2]*[3-4]/2", 0), -1);
    }

    private static void tests() {
        Told x = landed(3, 1);
        says("SUM (\"<\" | \">\" | \"=\") SUM");
        due(dueOf(x, "pay 1 if 4<5;pay 2 if 5<5;pay 4 if 6<5", 0), 1);
        due(dueOf(x, "pay 1 if 4>5;pay 2 if 5>5;pay 4 if 6>5", 0), 4);
        due(dueOf(x, "pay 1 if 4=5;pay 2 if 5=5;pay 4 if 6=5", 0), 2);
        due(dueOf(x, "pay 1 if 0-5<0-4;pay 2 if 0-5>0-6;pay 4 if 0-5=5-10", 0), 7);
        due(dueOf(x, "pay 1 if 99999*100000*100<100000*100000*100;pay 2 if 0-100000*100000*100<0", 0), 3);
        says("TEST: BOTH {\"or\" BOTH}. BOTH: PLAIN {\"and\" PLAIN}. \"not\" PLAIN");
        String[] so = {"1=2", "1=1"};
        for (int n = 0; n < 8; n++) {
            boolean a = (n & 1) != 0;
            boolean b = (n & 2) != 0;
            boolean c = (n & 4) != 0;
            String[] t = {so[n & 1], so[n >> 1 & 1], so[n >> 2]};
            due(dueOf(x, "pay 1 if " + t[0] + " or " + t[1] + " and " + t[2], 0), a || b && c ? 1 : 0);
            due(dueOf(x, "pay 1 if " + t[0] + " and " + t[1] + " or " + t[2], 0), a && b || c ? 1 : 0);
            due(dueOf(x, "pay 1 if (" + t[0] + " or " + t[1] + ") and " + t[2], 0), (a || b) && c ? 1 : 0);
            due(dueOf(x, "pay 1 if not " + t[0] + " or " + t[1] + " or not " + t[2], 0), !a || b || !c ? 1 : 0);
            due(dueOf(x, "pay 1 if not " + t[0] + " and " + t[1] + " and not " + t[2], 0), !a && b && !c ? 1 : 0);
            due(dueOf(x, "pay 1 if not (" + t[0] + " and " + t[1] + " or not " + t[2] + ")", 0), !(a && b || !c) ? 1 : 0);
        }
    }

    private static void brokenClauses() {
        Told x = landed(3, 1);
        says("a CLAUSE with anything BROKEN counts nothing");
        due(dueOf(x, "pay 1/0;pay 2;fine 1/0;fine 4;pay 8 if 1/0=1;fine 16 if 1/0=1;pay 32", 0), 2 - 4 + 32);
        due(dueOf(x, "pay 1/0;pay 2;fine 1/0;fine 4", 1), 2);
        due(dueOf(x, "pay 1/0;pay 2;fine 1/0;fine 4", 2), 4);
        due(dueOf(x, "pay 1/0 if 1=2;pay 1/0 if 1=1;pay 4", 0), 4);
        due(dueOf(x, "pay 1 if not 1/0=1;pay 2 if not not 1/0=1;pay 4 if (1/0=1)", 0), 0);
        due(dueOf(x, "pay 1 if 1=1/0;pay 2 if 1<1/0;pay 4 if 1/0>1", 0), 0);
        says("(\"or\", \"and\" ask what stands behind only if it can still matter)");
        due(dueOf(x, "pay 1 if 1=1 or 1/0=1", 0), 1);
        due(dueOf(x, "pay 1 if 1=2 or 1/0=1", 0), 0);
        due(dueOf(x, "pay 1 if 1=2 and 1/0=1;pay 2", 0), 2);
        due(dueOf(x, "pay 1 if not (1=2 and 1/0=1)", 0), 1);
        due(dueOf(x, "pay 1 if 1=1 and 1/0=1", 0), 0);
        due(dueOf(x, "pay 1 if not (1=1 and 1/0=1)", 0), 0);
        due(dueOf(x, "pay 1 if 1/0=1 or 1=1", 0), 0);
        due(dueOf(x, "pay 1 if not (1/0=1 and 1=2)", 0), 0);
        due(dueOf(x, "pay 1 if 1=1 or 1/0=1 or 1/0=1", 0), 1);
        due(dueOf(x, "pay 1 if 1=2 or 1=1 or 1/0=1", 0), 1);
        due(dueOf(x, "pay 1 if 1=1 or 1/0=1 and 1/0=1", 0), 1);
        due(dueOf(x, "pay 1 if 1=2 and 1/0=1 or 1=1", 0), 1);
        due(dueOf(x, "pay 1 if 1=2 and 1/0=1 and 1/0=1 or 1=1", 0), 1);
        due(dueOf(x, "pay 1 if 1=2 and 1/0=1 or 1/0=1", 0), 0);
        due(dueOf(x, "pay 1 if (1=1 or 1/0=1) and 1=1", 0), 1);
        due(dueOf(x, "pay 1 if (1=1 or 1/0=1) and 1/0=1", 0), 0);
        due(dueOf(x, "pay 1 if (1=2 or 1/0=1) or 1=1", 0), 0);
        due(dueOf(x, "pay 1 if not 1=1 and 1/0=1 or 1=1", 0), 1);
        due(dueOf(x, "pay 1 if 1=2 and (1/0=1 or 1/0=1);pay 2", 0), 2);
    }

    /** Whatever was BROKEN ahead leaves nothing behind. */
    private static void brokenAgainAndAgain() {
        says("a CLAUSE with anything BROKEN counts nothing, nor does it matter to what is asked later");
        Told x = landed(3, 1);
        contract(x, "pay 1+2*[3+4*[5+6*[7/0]]];pay 1 if 5/0=1;fine 1+[2+[3+1/0]];pay 9");
        contract(x, "pay 1+2*[3+4*[5+6]] if 1+[1+[1+[1+[1+[1+[1+1]]]]]]=8");
        for (int n = 0; n < 200; n++) {
            due(x.due(0, 0, 0, 0), 9);
            due(x.due(0, 1, 0, 0), 95);
        }
    }

    /** As many long TEXTS as there may be, all with fifty PARTS, with faulty ones between. */
    private static void longTexts() {
        says("CONTRACTS are TEXTS, 12 at most: each with 50 NUMBERS and words");
        Told x = landed(3, 1);
        for (int n = 0; n < 12; n++) {
            due(contract(x, "pay 1" + "+1".repeat(49) + "+1"), -6);
            due(contract(x, "pay " + n + "+1".repeat(40) + " if 1=2" + " or 1=1 and 1=1".repeat(1) + " or 1=2"), n);
        }
        for (int n = 0; n < 12; n++) {
            due(x.due(0, n, 0, 0), n + 40);
        }
    }

    private static void noDue() {
        says("DUE: NOTHING (-2,000,000,000,000,000) without");
        Told x = new Told();
        due(x.due(0, 0, 0, 0), NOTHING);
        contract(x, "pay 1");
        due(x.due(0, 0, 0, 0), NOTHING);
        Told y = landed(3, 1);
        due(y.due(0, 0, 0, 0), NOTHING);
        contract(y, "at 1");
        for (int what = 0; what <= 4; what++) {
            due(y.due(0, 0, 0, what), 0);
        }
        due(y.due(0, 0, 0, 5), NOTHING);
        due(y.due(0, 0, 0, -1), NOTHING);
        due(y.due(0, 0, -1, 0), NOTHING);
        due(y.due(0, 0, 2399, 0), 0);
        due(y.due(0, 0, 2400, 0), NOTHING);
    }

    // ---------------------------------------------------------------- settled

    private static void settles() {
        says("SETTLED is a LANDING once, by a CONTRACT, as known NOW");
        Told x = landed(15, 5);
        contract(x, "window 0 to 9;pay price;fine late*100");
        contract(x, "pay 1+heat+billed");
        due(x.count(0), 20);
        x.price(0, 7, 20);
        x.price(0, 8, 21);
        x.force(10, 10, 20);
        x.force(11, 11, 21);
        due(x.settled(0, 0), NOTHING);
        due(x.settled(0, 1), NOTHING);
        due(x.settled(0, 2), NOTHING);
        due(x.landing(0, 6), 0);
        Told other = x.copy();
        due(x.settle(0, 0), 0);
        due(x.settled(0, 0), 7 - 900);
        due(x.settled(0, 1), 0);
        due(x.settled(0, 2), 20);
        due(x.settled(0, 3), NOTHING);
        due(x.settled(0, -1), NOTHING);
        due(x.settled(1, 0), NOTHING);
        due(x.settled(-1, 0), NOTHING);
        due(x.landing(0, 6), 1);
        says("what is DUE then stays so, whatever becomes known");
        x.go(1);
        due(x.due(0, 0, 21, 0), 8 - 800);
        x.price(0, 9, 0);
        x.force(0, 2399, 0);
        x.heat(0, 2000);
        x.bill(0, 1);
        due(x.due(0, 0, 0, 0), 9);
        due(x.settled(0, 0), 7 - 900);
        due(x.settled(0, 2), 20);
        other.go(1);
        due(other.settle(0, 1), 0);
        other.heat(0, 2000);
        other.bill(0, 1);
        due(other.settled(0, 0), 1 + 1000 + 50);
        due(other.settled(0, 1), 1);
        due(other.settled(0, 2), 21);
        due(other.due(0, 1, 0, 0), 1 + 2000 + 1);
        says("SETTLED at the last HOUR, with all BROKEN");
        Told last = landed(2398, 1);
        due(last.count(0), 2399);
        contract(last, "pay 1/0");
        due(last.settle(0, 0), 0);
        due(last.settled(0, 0), 0);
        due(last.settled(0, 2), 2399);
        due(last.landing(0, 6), 1);
        due(last.settle(0, 0), -4);
    }

    // ---------------------------------------------------------------- gauges

    private static Told gauge() {
        Told x = landed(3, 1);
        int[][] rows = {{10, 7}, {100, 1000}, {200, 2000}, {300, 4000}};
        for (int k = 0; k < 4; k++) {
            due(x.table(0, k, rows[k][0], rows[k][1]), 0);
        }
        return x;
    }

    private static void tables() {
        says("between two rows by parts, cut; below the first its tons, above the last its");
        int[][] all = {{0, 7}, {9, 7}, {10, 7}, {11, 18}, {12, 29}, {99, 988}, {100, 1000}, {101, 1010}, {199, 1990},
            {200, 2000}, {201, 2020}, {299, 3980}, {300, 4000}, {301, 4000}, {5000, 4000}};
        Told x = gauge();
        for (int[] c : all) {
            x.reading(0, 0, c[0], 0, 0);
            due(x.gauged(0, 0, 0), c[1]);
            x.reading(0, 1, c[0], 0, 0);
            due(x.gauged(0, 0, 1), c[1]);
            due(x.gauged(0, 0, 2), 0);
        }
        says("from so many centimetres on (0 .. 5000) so many tons (0 .. 200,000, not below)");
        Told y = landed(3, 1);
        y.table(0, 0, 0, 0);
        y.table(0, 1, 1, 0);
        y.table(0, 2, 4999, 200_000);
        y.table(0, 3, 5000, 200_000);
        int[][] wide = {{0, 0}, {1, 0}, {2, 200_000 / 4998}, {2500, (int) (200_000L * 2499 / 4998)},
            {4998, (int) (200_000L * 4997 / 4998)}, {4999, 200_000}, {5000, 200_000}};
        for (int[] c : wide) {
            y.reading(0, 0, c[0], 0, 0);
            due(y.gauged(0, 0, 0), c[1]);
        }
    }

    private static void tablesThatCount() {
        says("(Rows are told in any order; they count once all four are told and go up.)");
        int[][] orders = {{0, 1, 2, 3}, {3, 2, 1, 0}, {2, 0, 3, 1}};
        for (int[] order : orders) {
            Told x = landed(3, 1);
            x.reading(0, 0, 250, 0, 0);
            for (int k : order) {
                due(x.gauged(0, 0, 0), NOTHING);
                due(x.table(0, k, 100 * k, 1000 * k), 0);
            }
            due(x.gauged(0, 0, 0), 2500);
        }
        says("each row's above that ahead of it; so many tons, not below");
        for (int k = 0; k < 4; k++) {
            Told x = landed(3, 1);
            x.reading(0, 0, 4000, 0, 0);
            for (int row = 0; row < 4; row++) {
                x.table(0, row, 100 + 100 * row, 1000 + 1000 * row);
            }
            due(x.gauged(0, 0, 0), 4000);
            int least = k == 0 ? 0 : 100 * k + 1;
            int most = k == 3 ? 5000 : 200 + 100 * k - 1;
            counts(x, k, least, 1000 + 1000 * k, true);
            counts(x, k, most, 1000 + 1000 * k, true);
            counts(x, k, least - 1, 1000 + 1000 * k, k == 0);
            counts(x, k, most + 1, 1000 + 1000 * k, k == 3);
            int few = k == 0 ? 0 : 1000 * k;
            int many = k == 3 ? 200_000 : 2000 + 1000 * k;
            counts(x, k, 100 + 100 * k, few, true);
            counts(x, k, 100 + 100 * k, many, true);
            counts(x, k, 100 + 100 * k, few - 1, k == 0);
            counts(x, k, 100 + 100 * k, many + 1, k == 3);
        }
    }

    /** A row that can't be told changes nothing, so that the table counts as ahead. */
    private static void counts(Told world, int k, int centimetres, int tons, boolean so) {
        Told x = world.copy();
        x.table(0, k, centimetres, tons);
        due(x.gauged(0, 0, 0) != NOTHING ? 1 : 0, so ? 1 : 0);
        // Told anew as it was it counts again.
        x.table(0, k, 100 + 100 * k, 1000 + 1000 * k);
        due(x.gauged(0, 0, 0), 4000);
    }

    private static void putRight() {
        says("PUT RIGHT: centimetres less TRIM times the SHIP's LIST (-50 .. 50; 0 at first)");
        Told x = gauge();
        x.reading(0, 0, 150, 20, 0);
        due(x.gauged(0, 0, 0), 1500);
        due(x.list(0, 1), 0);
        due(x.gauged(0, 0, 0), 1300);
        due(x.list(0, -1), 1);
        due(x.gauged(0, 0, 0), 1700);
        due(x.list(0, 50), -1);
        due(x.status(), 0);
        due(x.gauged(0, 0, 0), 7);
        due(x.list(0, -50), 50);
        due(x.gauged(0, 0, 0), 4000);
        x.reading(0, 0, 0, 20, 0);
        due(x.gauged(0, 0, 0), 4000);
        x.list(0, 50);
        due(x.gauged(0, 0, 0), 7);
        x.reading(0, 0, 5000, -20, 0);
        due(x.gauged(0, 0, 0), 4000);
        x.reading(0, 0, 1100, 20, 0);
        due(x.gauged(0, 0, 0), 1000);
        x.reading(0, 0, 1099, 20, 0);
        due(x.gauged(0, 0, 0), 988);
        x.list(0, -50);
        x.reading(0, 0, 0, -20, 0);
        due(x.gauged(0, 0, 0), 7);
        x.list(0, -3);
        x.reading(0, 0, 100, -7, 0);
        due(x.gauged(0, 0, 0), 7 + 993 * 69 / 90);
    }

    private static void readingsKnown() {
        says("known from an HOUR on: of those known the one told last");
        Told x = gauge();
        due(x.reading(0, 0, 100, 0, 5), 1);
        due(x.gauged(0, 4, 0), NOTHING);
        due(x.gauged(0, 5, 0), 1000);
        due(x.reading(0, 0, 200, 0, 3), 2);
        due(x.gauged(0, 2, 0), NOTHING);
        due(x.gauged(0, 3, 0), 2000);
        due(x.gauged(0, 5, 0), 2000);
        due(x.reading(0, 0, 300, 0, 2399), 3);
        due(x.gauged(0, 2398, 0), 2000);
        due(x.gauged(0, 2399, 0), 4000);
        due(x.reading(0, 0, 10, 0, 0), 4);
        due(x.gauged(0, 0, 0), 7);
        due(x.gauged(0, 2399, 0), 7);
        says("ahead of a LANDING (0) or behind it (1)");
        due(x.gauged(0, 2399, 1), NOTHING);
        due(x.gauged(0, 2399, 2), NOTHING);
        due(x.reading(0, 1, 100, 0, 9), 5);
        due(x.gauged(0, 8, 1), NOTHING);
        due(x.gauged(0, 8, 2), NOTHING);
        due(x.gauged(0, 9, 1), 1000);
        says("GAUGED as known: tons by the table ahead less those behind");
        due(x.gauged(0, 9, 2), 7 - 1000);
        says("CLAIM: BILLED less GAUGED, times the price as above");
        due(x.gauged(0, 9, 3), 0);
        x.price(0, 3, 10);
        due(x.gauged(0, 9, 3), 0);
        due(x.gauged(0, 10, 3), (10 + 993) * 3);
        x.reading(0, 0, 200, 0, 11);
        due(x.gauged(0, 10, 3), (10 + 993) * 3);
        due(x.gauged(0, 11, 3), (10 - 1000) * 3);
        x.bill(0, 1000);
        due(x.gauged(0, 11, 3), 0);
        due(x.gauged(0, 8, 3), NOTHING);
        says("NOTHING without (no table that counts, no READING)");
        x.table(0, 3, 200, 4000);
        for (int what = 0; what <= 3; what++) {
            due(x.gauged(0, 2399, what), NOTHING);
        }
        due(x.gauged(0, 2399, 4), NOTHING);
        x.table(0, 3, 201, 4000);
        due(x.gauged(0, 11, 2), 1000);
    }

    /** The greatest CLAIM: 200,000 billed and 200,000 gauged too few, at 10,000. */
    private static void greatestClaim() {
        says("CLAIM: BILLED less GAUGED, times the price as above: the greatest");
        Told x = landed(3, 1);
        for (int k = 0; k < 4; k++) {
            x.table(0, k, k, k < 2 ? 0 : 200_000);
        }
        x.reading(0, 0, 0, 0, 0);
        x.reading(0, 1, 5000, 0, 0);
        x.price(0, 10_000, 0);
        x.bill(0, 200_000);
        due(x.gauged(0, 0, 2), -200_000);
        due(x.gauged(0, 0, 3), 4_000_000_000L);
    }

    /** LANDINGS of two ships have their own READINGS, tables and LISTS. */
    private static void gaugesOfTwo() {
        says("GAUGES: of a SHIP a table");
        Told x = new Told();
        x.terminal(9000, 9000, 4000, 30);
        x.terms(0, 1000);
        for (int s = 0; s < 2; s++) {
            x.ship(0, 1000, 1);
            x.slot(0, s, 2 * s, 2 * s + 1);
            x.order(s, LOAD, 100);
            x.order(s, LAND, 5 + s);
        }
        x.go(4);
        List<Integer> ships = new ArrayList<>(List.of(x.landing(0, 0), x.landing(1, 0)));
        due(ships.equals(List.of(0, 1)) ? 1 : 0, 1);
        for (int k = 0; k < 4; k++) {
            x.table(0, k, 10 * k, 100 * k);
        }
        for (int l = 0; l < 2; l++) {
            x.reading(l, 0, 25, 1, 0);
        }
        due(x.gauged(0, 0, 0), 250);
        due(x.gauged(1, 0, 0), NOTHING);
        for (int k = 0; k < 4; k++) {
            x.table(1, k, 10 * k, 1000 * k);
        }
        x.list(1, 5);
        due(x.gauged(0, 0, 0), 250);
        due(x.gauged(1, 0, 0), 2000);
        due(x.list(0, 0), 0);
        due(x.list(1, 0), 5);
    }

    public static void main(String[] args) {
        heats();
        pricesOfDays();
        forceHours();
        bills();
        windows();
        tokens();
        grammar();
        clauses();
        otherWords();
        numbers();
        manyClauses();
        manyParts();
        manyBrackets();
        fullTape();
        latestFault();
        sums();
        quotients();
        tests();
        brokenClauses();
        brokenAgainAndAgain();
        longTexts();
        noDue();
        settles();
        tables();
        tablesThatCount();
        putRight();
        readingsKnown();
        greatestClaim();
        gaugesOfTwo();
        finish();
    }
}
