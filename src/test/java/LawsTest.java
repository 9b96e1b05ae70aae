/** The language of the LAWS: FAULTS by their places, and SUMS as prices. */
public final class LawsTest {
    private LawsTest() { }

    public static void main(String[] args) {
        cantStand();
        cutOff();
        tooLong();
        tooDeep();
        tooMany();
        thirteenth();
        whatStands();
        sums();
        tests();
        firstClauses();
        Check.finish("LawsTest");
    }

    private static void fault(String text, int place, int sort) {
        Check.due("law of " + text, Check.law(new OwnedByTwos(), text), -2 - (1 + 8 * place + sort));
    }

    private static void stands(String text) {
        Check.due("law of " + text, Check.law(new OwnedByTwos(), text), 0);
    }

    private static void cantStand() {
        fault("", 0, 0);
        fault("   ", 3, 0);
        fault("yes", 3, 0);
        fault("yes  ", 5, 0);
        fault(" no 1", 1, 0);
        fault("yesday", 0, 0);
        fault("Yes 1", 0, 0);
        fault("1", 0, 0);
        fault(";yes 1", 0, 0);
        fault("yes 1;", 6, 0);
        fault("yes 1; ;", 7, 0);
        fault("yes 1 2", 6, 0);
        fault("yes 1 day", 6, 0);
        fault("yes +1", 4, 0);
        fault("yes -1", 4, 0);
        fault("yes 1+", 6, 0);
        fault("yes 1+*2", 6, 0);
        fault("yes [1]", 4, 0);
        fault("yes price", 4, 0);
        fault("yes not", 4, 0);
        fault("yes like day", 9, 0);
        fault("yes likes", 4, 0);
        fault("yes likE", 4, 0);
        fault("yes likeE", 8, 0);
        fault("yes 1 iffy", 6, 0);
        fault("yes 1 if", 8, 0);
        fault("yes 1 if day", 12, 0);
        fault("yes 1 if day;", 12, 0);
        fault("yes 1 if day and", 13, 0);
        fault("yes 1 if day=", 13, 0);
        fault("yes 1 if day==1", 13, 0);
        fault("yes 1 if day< =1", 14, 0);
        fault("yes 1 if day=<1", 13, 0);
        fault("yes 1 if day<>1", 13, 0);
        fault("yes 1 if day=1=1", 14, 0);
        fault("yes 1 if day=1 andy", 15, 0);
        fault("yes 1 if day=1 or", 17, 0);
        fault("yes 1 if day=1 not day=1", 15, 0);
        fault("yes 1 if day=1]", 14, 0);
        fault("yes 1 if [day=1", 15, 0);
        fault("yes 1 if [day=1;", 15, 0);
        fault("yes 1 if [day]=1", 13, 0);
        fault("yes 1 if []", 10, 0);
        fault("yes 1 if not", 12, 0);
        fault("yes 1 if not 1", 14, 0);
        fault("yes 1 if 1+[1=1]", 11, 0);
        fault("yes 1 if 1=not 1", 11, 0);
        fault("yes 1 if 1=1 if 1=1", 13, 0);
        fault("yes\t1", 3, 0);
        fault("yes 1" + (char) 0, 5, 0);
        fault("yes " + (char) 233, 4, 0);
        fault("yes 1)", 5, 0);
        fault("yes dayz", 4, 0);
        fault("zyes 1", 0, 0);
        fault("yes 1 if day{1", 12, 0);
        fault("yes a", 4, 0);
    }

    /** What end cut off is no part of the text, though it was fed. */
    private static void cutOff() {
        String[] texts = {"yes 1 if day<=1", "yes 12", "yes dayday", "yes 1;yes 1", "yes 1 if 1=1 and 1=1"};
        int[] ends = {13, 5, 7, 5, 12};
        int[] wants = {-2 - (1 + 8 * 13), 0, 0, 0, 0};
        for (int i = 0; i < texts.length; i++) {
            OwnedByTwos t = new OwnedByTwos();
            Check.write(t, texts[i]);
            t.end(ends[i]);
            Check.due("law of " + texts[i] + " cut to " + ends[i], t.law(), wants[i]);
        }
    }

    private static void tooLong() {
        fault("yes 100000", 4, 1);
        fault("yes 1+000001 if", 6, 1);
        fault("yes 1234567890123456789012345678901234567890", 4, 1);
        fault("yes 1" + "+1".repeat(59) + "+100000", 4 + 120, 1);
        stands("yes 99999");
        stands("yes 00000");
    }

    private static void tooDeep() {
        fault("yes 1 if " + "[".repeat(11), 19, 2);
        fault("yes 1 if " + "not ".repeat(11), 49, 2);
        fault("yes 1 if " + "[not ".repeat(5) + "[", 34, 2);
        fault("yes 1 if " + "[".repeat(10) + "1=1 or not 1=1", 26, 2);
        fault("yes 1 if " + "[".repeat(10) + "]", 19, 0);
        stands("yes 1 if " + "[".repeat(10) + "1=1" + "]".repeat(10));
        stands("yes 1 if " + "[[[[[[[[[not 1=1 or not 1=1]]]]]]]]]" + " and " + "not ".repeat(10) + "1=1");
    }

    private static void tooMany() {
        stands("yes 1" + "+1".repeat(59));
        fault("yes 1" + "+1".repeat(60), 124, 3);
        fault("yes 1" + "+1".repeat(59) + "+day", 124, 3);
        fault("yes 1" + "+1".repeat(59) + "+dad", 124, 0);
        fault("yes 1" + "+1".repeat(59) + "+", 124, 0);
        fault("yes 1" + "+1".repeat(59) + ";price 1", 4 + 119 + 7, 3);
        fault("yes 1" + "+1".repeat(58) + " if 1=1", 4 + 117 + 5, 3);
        fault("yes 1" + "+1".repeat(57) + " if 1 =1", 4 + 115 + 7, 3);
        fault("yes 1" + "+1".repeat(57) + " if 1=", 4 + 115 + 6, 0);
        stands("yes 1" + "+1".repeat(56) + " if 1=1");
        fault("yes 1 if 1=1" + " and 1<=1".repeat(18) + " or 1+1>=1", 12 + 9 * 18 + 7, 3);
    }

    private static void thirteenth() {
        String twelve = "yes 1" + ";yes 1".repeat(11);
        stands(twelve);
        fault(twelve + ";yes 1", 72, 4);
        fault(twelve + "; peace", 73, 4);
        fault(twelve + ";", 72, 0);
        fault(twelve + ";no", 72, 0);
        fault(twelve + " ;  ;", 75, 0);
    }

    private static void whatStands() {
        stands("yes1");
        stands("  yes  1  ;  price  2  ");
        stands("yes 1if 1=1and 2=2or not[3=3]");
        stands("yes like+mate-worth*use/owns+coin;nods day;price given;quarrel shared;peace near+year");
        stands("yes 1 if 1<2 and 1<=2 and 1=2 and 1>=2 and 1>2");
        String long400 = "yes 1" + " ".repeat(395);
        stands(long400);
        fault(" ".repeat(400), 400, 0);
        fault(" ".repeat(399) + "y", 399, 0);
    }

    /** The price of an owner with the word day 7, worth 1000. */
    private static void price(String law, int want) {
        OwnedByTwos t = new OwnedByTwos();
        t.person(0);
        t.person(0);
        t.thing(0, 1, 0);
        t.work(0, 1, 1000, 7);
        Check.due("law of " + law, Check.law(t, law), 0);
        Check.due("price by " + law, t.nod(0, 0, 0, 1), want);
    }

    private static void sums() {
        price("price 2+3*4", 14);
        price("price 20-3-4", 13);
        price("price 20-3*4+5-1", 12);
        price("price 100/7/2*3", 21);
        price("price 7*3/2", 10);
        price("price 10+7/2*2-1*2+day*worth/100", 10 + 6 - 2 + 70);
        price("price 5/0+3", 3);
        price("price 0/0+3", 3);
        price("price 100+0-7/2", 97);
        price("price 100+like/2-3", 97);
        price("price 1-8/3*1+0*9+4", 3);
        price("price 10+day/2*0-1*7/2", 7);
        price("price 00012", 12);
        long big = 99999L * 99999L * 99999L * 99999L;
        long rest = big - big / 1000 * 1000;
        price("price 1000+99999*99999*99999*99999-99999*99999*99999*99999/1000*1000", (int) (1000 + rest));
        long least = 65536L * 65536L * 32768L * 65536L;
        Check.due("least", least, Long.MIN_VALUE);
        price("price 5 if 65536*65536*32768*65536<0", 5);
        price("price 5 if 65536*65536*32768*65536-1>0", 5);
        price("price 0-1*3/2+9", 8);
        price("price 9+day-8*1", 8);
    }

    private static void tests() {
        String[] holding = {"1=1", "1<2", "1<=1", "2>=2", "3>2", "not 1=2", "1=2 or 1=1", "1=1 or 1=2 and 1=2",
            "1=2 and 1=2 or 1=1", "not not 1=1", "not [1=1 and 1=2]", "not 1=2 and 1=1", "not 1=2 or 1=2",
            "[1=2 or 1=1] and [1=1 or 1=2]", "day=7 and worth=1000", "1+1=2", "0-1<0"};
        String[] failing = {"1=2", "2<2", "2<=1", "1>=2", "2>2", "not 1=1", "1=2 or 2=1", "1=1 and 1=2",
            "[1=1 or 1=1] and 1=2", "not 1=1 and 1=2", "not [1=2 or 1=1]", "1=2 and 1=1 or 2=1", "year=1",
            "1=2 and 1=1 and 1=1", "not 1=1 or 1=2"};
        for (String test : holding) {
            price("price 1 if " + test + ";price 2", 1);
        }
        for (String test : failing) {
            price("price 1 if " + test + ";price 2", 2);
        }
    }

    private static void firstClauses() {
        price("price 3;price 4", 3);
        price("price 3 if 1=2;price 4 if 1=2;price 5;price 6", 5);
        price("price 3 if 1=2", -2);
        price("yes 1;price 3", 0);
        price("yes 0;yes 1;price 3", 3);
        price("nods 1;quarrel 1;peace 1", -2);
        price("yes 0-1;price 99999*9", 9999);
    }
}
