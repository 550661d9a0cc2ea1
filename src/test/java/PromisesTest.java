/** For each promise of the document: ordinary inputs, the edges that it names, wrong inputs. */
public final class PromisesTest {
    private static final int LEAST_INT = Integer.MIN_VALUE, MOST_INT = Integer.MAX_VALUE;
    private static final int KIN = 0, SALE = 1, GIFT = 2, TIP = 3, PAPER = 4;
    private static final int PAPER_MARK = 1, FUR_MARK = 2, GUN_MARK = 4, NAME_MARK = 8;
    private static final int[] USUAL = {10, 200, 1, 100, 20, SALE, TIP};
    private static int checks = 0;
    private static int wrong = 0;

    private static void due(String call, long got, long want) {
        checks++;
        if (got != want) {
            wrong++;
            System.out.println(call + " answered " + got + ", due is " + want);
        }
    }

    private static void feedText(HouseSorted x, String text) {
        StringBuilder padded = new StringBuilder(text);
        while (padded.length() % 8 != 0) {
            padded.append(' ');
        }
        for (int i = 0; i < padded.length(); i += 8) {
            long v = 0;
            for (int j = 0; j < 8; j++) {
                v = v << 8 | padded.charAt(i + j) & 255;
            }
            x.feed(v);
        }
        x.end(text.length());
    }

    private static int tell(HouseSorted x, String text) {
        feedText(x, text);
        return x.laws();
    }

    private static HouseSorted withLaws(String text) {
        HouseSorted x = new HouseSorted();
        if (tell(x, text) < 0) {
            due("laws of '" + text + "'", -1, 0);
        }
        return x;
    }

    private static void addHeirs(HouseSorted x, int n) {
        for (int i = 0; i < n; i++) {
            x.heir();
        }
    }

    /** HEIRS with these WORTHS of THINGS that all have a name on them. */
    private static HouseSorted withWorths(int[][] worths) {
        HouseSorted x = new HouseSorted();
        addHeirs(x, worths.length);
        for (int t = 0; t < worths[0].length; t++) {
            x.thing(1, 0, 0, 0, NAME_MARK);
            for (int h = 0; h < worths.length; h++) {
                x.worth(h, t, worths[h][t]);
            }
        }
        return x;
    }

    private static void dueUsualLaws(String when, HouseSorted x) {
        for (int k = 0; k < USUAL.length; k++) {
            due(when + ": law(" + k + ")", x.law(k), USUAL[k]);
        }
    }

    private static void newObject() {
        HouseSorted x = new HouseSorted();
        for (int what = 0; what < 4; what++) {
            due("1 new: count(" + what + ")", x.count(what), 0);
        }
        due("1 new: fault", x.fault(), 0);
        dueUsualLaws("1 new", x);
        for (int k = 0; k < 4; k++) {
            due("1 new: lay on nothing " + k, x.lay(k, 0, 0), -11);
        }
        due("1 new: tape is empty", x.end(0), 0);
        due("1 new: gone", x.gone(), HouseSorted.NONE);
        due("BAD", HouseSorted.BAD, -1);
        due("STATE", HouseSorted.STATE, -2);
        due("FULL", HouseSorted.FULL, -3);
        due("NONE", HouseSorted.NONE, -4);
    }

    private static void feed() {
        HouseSorted x = new HouseSorted();
        due("2 feed", x.feed(0x76616e2039203b20L), 8);
        due("2 feed: highest byte first", x.laws(), 1);
        due("2 feed: law", x.law(3), 9);
        for (int n = 8; n <= 160; n += 8) {
            due("2 feed to " + n, x.feed(-1L), n);
        }
        due("2 feed on a full tape", x.feed(-1L), HouseSorted.FULL);
        due("2 end keeps 152", x.end(152), 160);
        due("2 feed to 160 again", x.feed(0), 160);
        due("2 end keeps 153", x.end(153), 160);
        due("2 feed over 153", x.feed(0), HouseSorted.FULL);
        due("2 the refused feed changed nothing", x.end(153), 153);
    }

    private static void end() {
        HouseSorted x = new HouseSorted();
        due("3 end(1) of an empty tape", x.end(1), HouseSorted.BAD);
        x.feed(0x6b65657020373b3bL);
        due("3 end(-1)", x.end(-1), HouseSorted.BAD);
        due("3 end(9)", x.end(9), HouseSorted.BAD);
        due("3 end(least)", x.end(LEAST_INT), HouseSorted.BAD);
        due("3 end(most)", x.end(MOST_INT), HouseSorted.BAD);
        due("3 end(8)", x.end(8), 8);
        due("3 end(7)", x.end(7), 8);
        due("3 laws of what is kept", x.laws(), 1);
        due("3 end(0)", x.end(0), 0);
    }

    private static void lawsThatHold() {
        HouseSorted x = new HouseSorted();
        due("4 no text", tell(x, ""), 0);
        due("4 blanks alone", tell(x, "   "), 0);
        due("4 all laws", tell(x, "keep 99;sale 1000 ;gift 100; van 200;look 1000;fur kin;gun gift;"), 7);
        int[] want = {99, 1000, 100, 200, 1000, KIN, GIFT};
        for (int k = 0; k < want.length; k++) {
            due("4 law " + k, x.law(k), want[k]);
        }
        due("4 the tape is empty then", x.end(0), 0);
        due("4 least numbers", tell(x, "keep 0;sale 0000;gift 0;van 0001;look 0;fur tip;gun sale;"), 7);
        int[] least = {0, 0, 0, 1, 0, TIP, SALE};
        for (int k = 0; k < least.length; k++) {
            due("4 least law " + k, x.law(k), least[k]);
        }
        due("4 no blanks are needed", tell(x, "keep7;fur gift;"), 2);
        due("4 keep7", x.law(0), 7);
        due("4 what is not told again is usual", x.law(1), 200);
        due("4 an empty text takes all back", tell(x, ""), 0);
        dueUsualLaws("4 taken back", x);
    }

    private static void dueFault(String text, int place, int fault) {
        HouseSorted x = withLaws("keep 55; gun kin;");
        due("4 place of the fault in '" + text + "'", tell(x, text), -10 - place);
        due("5 fault of '" + text + "'", x.fault(), fault);
        due("4 the tape is empty after '" + text + "'", x.end(0), 0);
        due("4 laws stay after '" + text + "'", x.law(0), 55);
        due("4 laws stay after '" + text + "'", x.law(6), KIN);
        due("4 sale stays after '" + text + "'", x.law(1), 200);
        due("29 count of laws after '" + text + "'", x.count(2), 2);
    }

    private static void faults() {
        dueFault("!", 0, 1);
        dueFault("keep\t5;", 4, 1);
        dueFault("keep -5;", 5, 1);
        dueFault("Keep 5;", 0, 1);
        dueFault("keep 5;\u0000", 7, 1);
        dueFault("keep 5;\u00ff", 7, 1);
        dueFault("keep 5;\u00a0", 7, 1);
        dueFault("  paper 5;", 2, 1);
        dueFault("keeps 5;", 0, 1);
        dueFault("beep 5;", 0, 1);
        dueFault("kee 5;", 0, 1);
        dueFault("va 5;", 0, 1);
        dueFault("vann 5;", 0, 1);
        dueFault("furgift;", 0, 1);
        dueFault("gun name;", 4, 1);
        dueFault("sale 00001;", 5, 1);
        dueFault("sale 10000;", 5, 1);
        dueFault("12345;", 0, 1);
        dueFault("keep 5 abc;", 7, 1);
        dueFault("keep 100!", 5, 3);
        dueFault("keep 5!", 6, 1);
        dueFault(";", 0, 2);
        dueFault("7;", 0, 2);
        dueFault("kin 7;", 0, 2);
        dueFault("tip;", 0, 2);
        dueFault("keep 5;;", 7, 2);
        dueFault("keep sale;", 5, 2);
        dueFault("keep;", 4, 2);
        dueFault("keep 5 5;", 7, 2);
        dueFault("keep 5 sale 6;", 7, 2);
        dueFault("keep", 4, 2);
        dueFault("keep  ", 6, 2);
        dueFault("keep 5", 6, 2);
        dueFault("keep 5   ", 9, 2);
        dueFault("fur", 3, 2);
        dueFault("fur 1;", 4, 2);
        for (String name : new String[] {"keep", "van", "look", "fur", "gun"}) {
            dueFault("fur " + name + ";", 4, 2);
            dueFault("gun " + name + ";", 4, 2);
        }
        dueFault("gun;", 3, 2);
        dueFault("keep 100;", 5, 3);
        dueFault("sale 1001;", 5, 3);
        dueFault("gift 101;", 5, 3);
        dueFault("van 0;", 4, 3);
        dueFault("van 201;", 4, 3);
        dueFault("look 1001;", 5, 3);
        dueFault("look 9999", 5, 3);
        dueFault("sale 1;look 1; sale", 15, 4);
        dueFault("keep 1;keep 100", 7, 4);
        dueFault("fur kin;fur paper;", 8, 4);
        dueFault("gun kin; fur sale; gun kin;", 19, 4);
        dueFault("keep 1;sale 1;gift 1;van 1;look 1;fur kin;gun kin; van 2;", 51, 4);
    }

    private static void faultAfterwards() {
        HouseSorted x = new HouseSorted();
        tell(x, "?");
        due("5 fault", x.fault(), 1);
        x.feed(0);
        due("5 fault stays until laws", x.fault(), 1);
        x.end(0);
        due("4 laws", x.laws(), 0);
        due("5 fault is of the latest", x.fault(), 0);
    }

    private static void law() {
        HouseSorted x = new HouseSorted();
        due("6 law(-1)", x.law(-1), HouseSorted.BAD);
        due("6 law(7)", x.law(7), HouseSorted.BAD);
        due("6 law(least)", x.law(LEAST_INT), HouseSorted.BAD);
        due("6 law(most)", x.law(MOST_INT), HouseSorted.BAD);
        tell(x, "fur gift;gun kin;");
        due("6 fur", x.law(5), GIFT);
        due("6 gun", x.law(6), KIN);
    }

    private static void heir() {
        HouseSorted x = new HouseSorted();
        for (int n = 0; n < 4; n++) {
            due("7 heir", x.heir(), n);
        }
        due("7 heir", x.heir(), HouseSorted.FULL);
        due("7 count", x.count(0), 4);
    }

    private static void thing() {
        HouseSorted x = new HouseSorted();
        int[][] bad = {{0, 0, 0, 0, 0}, {51, 0, 0, 0, 0}, {1, -1, 0, 0, 0}, {1, 1, 0, 0, 0}, {1, 0, 1001, 0, 0},
            {1, 1001, 1001, 0, 0}, {1, 0, 0, -1, 0}, {1, 0, 0, 100, 0}, {1, 0, 0, 0, -1}, {1, 0, 0, 0, 16},
            {LEAST_INT, 0, 0, 0, 0}, {1, LEAST_INT, 0, 0, 0}, {1, 0, MOST_INT, 0, 0}};
        for (int[] b : bad) {
            due("8 thing", x.thing(b[0], b[1], b[2], b[3], b[4]), HouseSorted.BAD);
        }
        due("8 nothing came", x.count(1), 0);
        due("8 greatest", x.thing(50, 1000, 1000, 99, 15), 0);
        due("8 least", x.thing(1, 0, 0, 0, 0), 1);
        for (int n = 2; n < 10; n++) {
            due("8 thing", x.thing(1, 2, 3, 4, 5), n);
        }
        due("8 FULL", x.thing(1, 2, 3, 4, 5), HouseSorted.FULL);
        due("8 BAD before FULL", x.thing(0, 2, 3, 4, 5), HouseSorted.BAD);
        due("8 count", x.count(1), 10);
    }

    private static void worth() {
        HouseSorted x = new HouseSorted();
        due("9 no heir", x.worth(0, 0, 0), HouseSorted.BAD);
        x.heir();
        due("9 no thing", x.worth(0, 0, 0), HouseSorted.BAD);
        x.thing(1, 0, 0, 0, 0);
        due("9 worth", x.worth(0, 0, 100), 0);
        due("9 worth", x.worth(0, 0, 0), 100);
        due("9 worth", x.worth(0, 0, 7), 0);
        int[][] bad = {{-1, 0, 1}, {1, 0, 1}, {4, 0, 1}, {0, -1, 1}, {0, 1, 1}, {0, 10, 1}, {0, 0, -1}, {0, 0, 101}};
        for (int[] b : bad) {
            due("9 worth(" + b[0] + ", " + b[1] + ", " + b[2] + ")", x.worth(b[0], b[1], b[2]), HouseSorted.BAD);
        }
        due("9 nothing changed", x.worth(0, 0, 7), 7);
        x.heir();
        due("9 another heir's worth", x.worth(1, 0, 5), 0);
        due("9 the first one's stays", x.worth(0, 0, 7), 7);
    }

    private static void gone() {
        HouseSorted x = new HouseSorted();
        due("10 none", x.gone(), HouseSorted.NONE);
        addHeirs(x, 2);
        x.thing(1, 0, 0, 0, 0);
        x.thing(2, 0, 0, 0, 0);
        x.worth(0, 1, 9);
        x.worth(1, 1, 8);
        due("10 latest", x.gone(), 1);
        due("10 it is no thing", x.told(1, 0), HouseSorted.BAD);
        due("10 another comes", x.thing(3, 0, 0, 0, 0), 1);
        due("10 its way", x.told(1, 5), TIP);
        due("10 its worth is 0", x.worth(0, 1, 0), 0);
        due("10 its worth is 0", x.worth(1, 1, 0), 0);
        due("10 latest", x.gone(), 1);
        due("10 latest", x.gone(), 0);
        due("10 none", x.gone(), HouseSorted.NONE);
    }

    private static void look() {
        HouseSorted x = new HouseSorted();
        due("11 no thing", x.look(0, 0, 0), HouseSorted.BAD);
        x.thing(1, 10, 300, 0, 0);
        due("11 below", x.look(0, 9, 300), HouseSorted.BAD);
        due("11 above", x.look(0, 10, 301), HouseSorted.BAD);
        due("11 crossed", x.look(0, 30, 29), HouseSorted.BAD);
        due("11 other thing", x.look(1, 10, 300), HouseSorted.BAD);
        due("11 thing -1", x.look(-1, 10, 300), HouseSorted.BAD);
        due("11 low stays", x.told(0, 1), 10);
        due("11 high stays", x.told(0, 2), 300);
        due("11 as it was", x.look(0, 10, 300), 1);
        due("11 within", x.look(0, 200, 250), 1);
        due("11 low", x.told(0, 1), 200);
        due("11 high", x.told(0, 2), 250);
        due("11 way", x.told(0, 5), SALE);
        due("11 no more what was", x.look(0, 10, 250), HouseSorted.BAD);
        due("11 one number", x.look(0, 220, 220), 1);
        due("11 not below now", x.look(0, 219, 220), HouseSorted.BAD);
    }

    private static void told() {
        HouseSorted x = new HouseSorted();
        x.thing(5, 20, 40, 33, 9);
        int[] want = {5, 20, 40, 33, 9, KIN};
        for (int what = 0; what < want.length; what++) {
            due("12 told(0, " + what + ")", x.told(0, what), want[what]);
        }
        due("12 told(0, -1)", x.told(0, -1), HouseSorted.BAD);
        due("12 told(0, 6)", x.told(0, 6), HouseSorted.BAD);
        due("12 told(1, 0)", x.told(1, 0), HouseSorted.BAD);
        due("12 told(-1, 0)", x.told(-1, 0), HouseSorted.BAD);
        due("12 told(most, 0)", x.told(MOST_INT, 0), HouseSorted.BAD);
    }

    private static void dueWay(String laws, int low, int age, int marks, int worth, int want) {
        HouseSorted x = withLaws(laws);
        addHeirs(x, 2);
        x.thing(1, low, 1000, age, marks);
        x.worth(1, 0, worth);
        due("12 way of low " + low + " age " + age + " marks " + marks + " worth " + worth + " by '" + laws + "'",
            x.told(0, 5), want);
    }

    private static void waysOfThings() {
        dueWay("", 500, 0, 15, 9, TIP);
        dueWay("gun sale;fur gift;", 0, 0, 15, 9, SALE);
        dueWay("gun gift;", 0, 0, GUN_MARK, 0, GIFT);
        dueWay("gun kin;", 0, 0, GUN_MARK, 0, KIN);
        dueWay("", 0, 0, FUR_MARK | PAPER_MARK | NAME_MARK, 9, SALE);
        dueWay("fur tip;", 500, 0, FUR_MARK, 9, TIP);
        dueWay("", 500, 10, PAPER_MARK | NAME_MARK, 9, PAPER);
        dueWay("", 500, 11, PAPER_MARK | NAME_MARK, 9, KIN);
        dueWay("", 500, 11, PAPER_MARK, 9, SALE);
        dueWay("keep 0;", 500, 0, PAPER_MARK, 0, PAPER);
        dueWay("keep 0;", 0, 1, PAPER_MARK, 0, TIP);
        dueWay("", 500, 0, NAME_MARK, 0, KIN);
        dueWay("", 200, 0, 0, 9, SALE);
        dueWay("", 199, 0, 0, 1, KIN);
        dueWay("", 199, 0, 0, 0, GIFT);
        dueWay("", 1, 0, 0, 0, GIFT);
        dueWay("", 0, 0, 0, 0, TIP);
        dueWay("gift 0;", 0, 0, 0, 0, GIFT);
        dueWay("sale 0;", 0, 0, 0, 9, SALE);
        dueWay("sale 1000;", 999, 0, 0, 0, GIFT);
    }

    private static void way() {
        HouseSorted x = new HouseSorted();
        for (int w = 0; w < 5; w++) {
            for (int what = 0; what < 4; what++) {
                due("13 nothing there", x.way(w, what), 0);
            }
        }
        x.thing(1, 300, 400, 0, 0);
        x.thing(2, 500, 600, 0, 0);
        x.thing(4, 7, 8, 0, 0);
        x.thing(8, 0, 3, 0, 0);
        x.thing(16, 5, 9, 0, PAPER_MARK);
        x.thing(32, 6, 6, 0, NAME_MARK);
        int[][] want = {{1, 32, 6, 6}, {2, 3, 800, 1000}, {1, 4, 7, 8}, {1, 8, 0, 3}, {1, 16, 5, 9}};
        for (int w = 0; w < 5; w++) {
            for (int what = 0; what < 4; what++) {
                due("13 way(" + w + ", " + what + ")", x.way(w, what), want[w][what]);
            }
        }
        due("13 way(5, 0)", x.way(5, 0), HouseSorted.BAD);
        due("13 way(-1, 0)", x.way(-1, 0), HouseSorted.BAD);
        due("13 way(0, -1)", x.way(0, -1), HouseSorted.BAD);
        due("13 way(0, 4)", x.way(0, 4), HouseSorted.BAD);
    }

    private static void dueAsks(String laws, int low, int high, int age, int marks, int want) {
        HouseSorted x = withLaws(laws);
        x.heir();
        x.thing(1, low, high, age, marks);
        due("14 asks of " + low + " to " + high + " age " + age + " marks " + marks + " by '" + laws + "'",
            x.asks(0), want);
        x.worth(0, 0, 50);
        due("14 asks with a worth", x.asks(0), want);
    }

    private static void asks() {
        dueAsks("", 0, 300, 0, 0, 80);
        dueAsks("", 199, 221, 0, 0, 1);
        dueAsks("", 199, 220, 0, 0, 0);
        dueAsks("", 199, 200, 0, 0, 0);
        dueAsks("", 200, 300, 0, 0, 0);
        dueAsks("", 0, 199, 0, 0, 0);
        dueAsks("look 0;", 0, 201, 0, 0, 1);
        dueAsks("look 0;", 0, 200, 0, 0, 0);
        dueAsks("sale 0;look 0;", 0, 1000, 0, 0, 0);
        dueAsks("sale 1;look 0;", 0, 1000, 0, 0, 999);
        dueAsks("", 0, 300, 10, PAPER_MARK, 0);
        dueAsks("", 0, 300, 11, PAPER_MARK, 80);
        dueAsks("", 0, 300, 0, FUR_MARK, 0);
        dueAsks("", 0, 300, 0, GUN_MARK, 0);
        dueAsks("", 0, 300, 0, NAME_MARK, 0);
        dueAsks("", 0, 300, 11, PAPER_MARK | NAME_MARK, 0);
        HouseSorted x = new HouseSorted();
        due("14 no thing", x.asks(0), HouseSorted.BAD);
        due("14 thing -1", x.asks(-1), HouseSorted.BAD);
    }

    private static void turns() {
        HouseSorted x = new HouseSorted();
        due("15 rule before heirs", x.turns(2), HouseSorted.BAD);
        due("15 rule -1", x.turns(-1), HouseSorted.BAD);
        due("15 no heirs", x.turns(1), HouseSorted.STATE);
        x = withWorths(new int[][] {{5, 5, 5, 5, 5}, {1, 2, 3, 4, 4}});
        // 0: 0, 1: 3, 0: 1, 1: 4, 0: 2
        due("15 rule 0", x.turns(0), 8 + 16);
        // 0: 0, 1: 3, 1: 4, 0: 1, 0: 2
        due("15 rule 1", x.turns(1), 8 + 16);
        x = withWorths(new int[][] {{9, 8, 7, 6, 5}, {9, 8, 7, 6, 5}});
        due("15 rule 0 one by one", x.turns(0), 2 + 8);
        due("15 rule 1 there and back", x.turns(1), 2 + 4);
        x = withWorths(new int[][] {{1, 1, 1, 1, 1, 1, 1}, {1, 1, 1, 1, 1, 1, 1}, {1, 1, 1, 1, 1, 1, 1}});
        due("15 three, rule 0", x.turns(0), 3 + 2 * 9 + 81 + 2 * 243);
        due("15 three, rule 1", x.turns(1), 3 + 2 * 9 + 2 * 27 + 81);
        x = withWorths(new int[][] {{3, 2, 1}});
        due("15 one heir takes all", x.turns(0), 0);
        due("15 one heir, there and back", x.turns(1), 0);
        x = new HouseSorted();
        addHeirs(x, 4);
        due("15 nothing shared", x.turns(0), 0);
        for (int t = 0; t < 10; t++) {
            x.thing(1, 0, 0, 0, NAME_MARK);
        }
        // all 0: the least number is taken; 0 1 2 3 0 1 2 3 0 1
        int want = 0;
        for (int j = 9; j >= 0; j--) {
            want = want * 4 + j % 4;
        }
        due("15 four heirs, ten things", x.turns(0), want);
    }

    private static void sharedThings() {
        HouseSorted x = new HouseSorted();
        addHeirs(x, 3);
        x.thing(1, 0, 0, 0, 0);
        x.thing(1, 0, 0, 0, NAME_MARK);
        x.thing(1, 500, 500, 0, 0);
        x.thing(1, 0, 0, 0, NAME_MARK);
        x.worth(0, 2, 50);
        x.worth(0, 3, 9);
        due("15 things that are not shared have no place", x.turns(0), 1);
        due("29 shared", x.count(3), 2);
        due("18 no more sharings than of two", x.sum(9, 0, 0), HouseSorted.BAD);
        due("18 the last sharing", x.sum(8, 0, 2), 9);
    }

    private static void lie() {
        HouseSorted x = withWorths(new int[][] {{10, 8, 6}, {10, 1, 9}});
        due("16 as it is", x.turns(0), 4);
        due("16 lie", x.lie(0, 0, 0, 0), 1);
        due("16 lie of a tie", x.lie(0, 0, 1, 10), 4);
        due("16 lie above", x.lie(0, 0, 1, 11), 1);
        due("16 the other lies", x.lie(0, 1, 1, 100), 2);
        due("16 nothing changed", x.turns(0), 4);
        due("16 worth stays", x.worth(0, 0, 10), 10);
        int[][] bad = {{2, 0, 0, 0}, {-1, 0, 0, 0}, {0, 2, 0, 0}, {0, -1, 0, 0}, {0, 0, 3, 0}, {0, 0, -1, 0},
            {0, 0, 0, -1}, {0, 0, 0, 101}};
        for (int[] b : bad) {
            due("16 wrong lie", x.lie(b[0], b[1], b[2], b[3]), HouseSorted.BAD);
        }
        HouseSorted y = new HouseSorted();
        y.thing(1, 0, 0, 0, NAME_MARK);
        due("16 no heirs: no such heir", y.lie(0, 0, 0, 0), HouseSorted.BAD);
        y.heir();
        y.heir();
        y.thing(1, 0, 0, 0, 0);
        y.worth(0, 1, 5);
        due("16 ways are as they are", y.lie(0, 0, 1, 0), 2);
        y.thing(1, 0, 0, 0, 0);
        due("16 what is not shared stays so", y.lie(0, 0, 2, 100), y.turns(0));
    }

    private static void gain() {
        HouseSorted x = withWorths(new int[][] {{10, 9, 1}, {0, 9, 1}});
        // as it is 0: 0, 1: 1, 0: 2 (11); with a lie 0: 1, 1: 2, 0: 0 (19)
        due("17 gain", x.gain(0, 0), 8);
        due("17 nothing changed", x.turns(0), 2);
        due("17 no gain", x.gain(0, 1), 0);
        due("17 rule", x.gain(2, 0), HouseSorted.BAD);
        due("17 rule", x.gain(-1, 0), HouseSorted.BAD);
        due("17 heir", x.gain(0, 2), HouseSorted.BAD);
        due("17 heir", x.gain(0, -1), HouseSorted.BAD);
        due("17 no heirs: no such heir", new HouseSorted().gain(0, 0), HouseSorted.BAD);
        // as it is 0: 0, 1: 2, 0: 1 (19); with 11 told for 2, it gets 2, 0 and 1 (27)
        x = withWorths(new int[][] {{10, 9, 8, 0, 0}, {0, 0, 50, 40, 30}});
        due("17 gain by telling more", x.gain(0, 0), 8);
        x = withWorths(new int[][] {{100, 99, 98, 0, 0}, {0, 0, 50, 40, 30}});
        due("17 gain by telling more, a tie is not enough", x.gain(0, 0), 0);
        x = withWorths(new int[][] {{10, 8, 10, 0, 0}, {50, 0, 0, 40, 30}});
        due("17 a tie is enough for the least number", x.gain(0, 1), gainByAll(x, 0, 1, 5));
        // 100 is told for 0: of several with 100 it is the least number
        x = withWorths(new int[][] {{98, 100, 100, 0, 0}, {50, 0, 0, 40, 30}});
        due("17 gain by telling 100", x.gain(0, 0), 98);
        x = new HouseSorted();
        x.heir();
        due("17 nothing shared", x.gain(0, 0), 0);
    }

    private static int gainByAll(HouseSorted x, int rule, int heir, int things) {
        int honest = x.sum(x.turns(rule), heir, heir);
        int best = 0;
        for (int t = 0; t < things; t++) {
            for (int v = 0; v <= 100; v++) {
                best = Math.max(best, x.sum(x.lie(rule, heir, t, v), heir, heir) - honest);
            }
        }
        return best;
    }

    private static void sum() {
        HouseSorted x = withWorths(new int[][] {{1, 2, 4}, {10, 20, 40}});
        due("18 own", x.sum(5, 0, 0), 2);
        due("18 the other's", x.sum(5, 0, 1), 5);
        due("18 other own", x.sum(5, 1, 1), 50);
        due("18 other's other", x.sum(5, 1, 0), 20);
        due("18 the last", x.sum(7, 0, 1), 7);
        due("18 too great", x.sum(8, 0, 1), HouseSorted.BAD);
        due("18 below 0", x.sum(-1, 0, 1), HouseSorted.BAD);
        due("18 least", x.sum(LEAST_INT, 0, 1), HouseSorted.BAD);
        due("18 most", x.sum(MOST_INT, 0, 1), HouseSorted.BAD);
        due("18 heir", x.sum(0, 2, 1), HouseSorted.BAD);
        due("18 heir", x.sum(0, -1, 1), HouseSorted.BAD);
        due("18 other", x.sum(0, 0, 2), HouseSorted.BAD);
        due("18 other", x.sum(0, 0, -1), HouseSorted.BAD);
        due("18 no heirs", new HouseSorted().sum(0, 0, 0), HouseSorted.BAD);
        x = new HouseSorted();
        x.heir();
        due("18 the sharing of nothing", x.sum(0, 0, 0), 0);
        due("18 one alone", x.sum(1, 0, 0), HouseSorted.BAD);
    }

    private static void envies() {
        HouseSorted x = withWorths(new int[][] {{6, 4, 3}, {5, 5, 5}, {0, 0, 0}});
        due("19 all are the other's", x.envies(1 + 3 + 9, 0, 1), 2);
        due("19 the greatest left out is not enough", x.envies(1 + 3 + 0, 0, 1), 2);
        due("19 one thing against two", x.envies(1, 0, 1), 0);
        due("19 the greatest left out", x.envies(1 + 0 + 9, 0, 1), 1);
        due("19 alike", x.envies(2 + 3 + 0, 1, 0), 0);
        due("19 nothing at all", x.envies(2 + 6 + 18, 0, 1), 0);
        due("19 one thing against none", x.envies(1 + 6 + 18, 0, 1), 1);
        due("19 worth nothing", x.envies(0, 2, 0), 0);
        due("19 one", x.envies(0, 1, 1), HouseSorted.BAD);
        due("19 a", x.envies(0, 3, 1), HouseSorted.BAD);
        due("19 a", x.envies(0, -1, 1), HouseSorted.BAD);
        due("19 b", x.envies(0, 1, 3), HouseSorted.BAD);
        due("19 b", x.envies(0, 1, -1), HouseSorted.BAD);
        due("19 sharing", x.envies(27, 0, 1), HouseSorted.BAD);
        due("19 sharing", x.envies(-1, 0, 1), HouseSorted.BAD);
    }

    private static void envy() {
        HouseSorted x = withWorths(new int[][] {{6, 4, 3}, {5, 5, 5}, {0, 0, 0}});
        due("20 all to the first", x.envy(0), 1);
        due("20 all to the last", x.envy(26), 2);
        due("20 too great", x.envy(27), HouseSorted.BAD);
        due("20 below 0", x.envy(-1), HouseSorted.BAD);
        x = new HouseSorted();
        due("20 no heirs, the sharing of nothing", x.envy(0), 0);
        due("20 no heirs, no other", x.envy(1), HouseSorted.BAD);
        x.thing(1, 0, 0, 0, NAME_MARK);
        due("20 no heirs, a thing: no sharing", x.envy(0), HouseSorted.BAD);
        addHeirs(x, 4);
        for (int t = 1; t < 10; t++) {
            x.thing(1, 0, 0, 0, NAME_MARK);
        }
        for (int h = 0; h < 4; h++) {
            x.worth(h, 9, 1);
        }
        due("20 the greatest number", x.envy(1048575), 3);
        due("20 above it", x.envy(1048576), HouseSorted.BAD);
    }

    private static void fairest() {
        HouseSorted x = new HouseSorted();
        due("21 no heirs", x.fairest(), HouseSorted.STATE);
        x.heir();
        due("21 nothing shared", x.fairest(), 0);
        due("21 least sum first", withWorths(new int[][] {{9, 9, 9}, {1, 1, 1}}).fairest(), 3);
        due("21 then the sum of all", withWorths(new int[][] {{5, 5, 1}, {5, 5, 2}}).fairest(), 5);
        due("21 then the least number", withWorths(new int[][] {{5, 5}, {5, 5}}).fairest(), 1);
        due("21 all 0", withWorths(new int[][] {{0, 0}, {0, 0}}).fairest(), 0);
        due("21 one never content", withWorths(new int[][] {{0, 0}, {3, 4}}).fairest(), 3);
        x = withWorths(new int[][] {{1, 1, 1, 1, 1, 1, 1, 1}, {1, 1, 1, 1, 1, 1, 1, 1}, {1, 1, 1, 1, 1, 1, 1, 1},
            {1, 1, 1, 1, 1, 1, 1, 1}});
        // Two each, the least number: the highest places get the least HEIRS.
        int want = 0;
        for (int j = 7; j >= 0; j--) {
            want = want * 4 + 3 - j / 2;
        }
        due("21 eight shared", x.fairest(), want);
        x.thing(1, 0, 0, 0, 0);
        due("21 eight shared of nine", x.fairest(), want);
        x.worth(0, 8, 1);
        due("21 nine shared", x.fairest(), HouseSorted.STATE);
    }

    private static void bid() {
        HouseSorted x = new HouseSorted();
        due("22 no thing", x.bid(0), HouseSorted.BAD);
        x.thing(1, 0, 0, 0, 0);
        due("22 no heirs before not shared", x.bid(0), HouseSorted.STATE);
        due("22 thing -1 before heirs", x.bid(-1), HouseSorted.BAD);
        addHeirs(x, 3);
        due("22 not shared", x.bid(0), HouseSorted.NONE);
        x.worth(2, 0, 5);
        due("22 the greatest", x.bid(0), 2);
        x.worth(1, 0, 5);
        due("22 the least number of several", x.bid(0), 1);
        x.thing(1, 0, 0, 0, NAME_MARK);
        due("22 none wants it", x.bid(1), 0);
        due("22 thing 2", x.bid(2), HouseSorted.BAD);
    }

    private static void settled() {
        HouseSorted x = withWorths(new int[][] {{10, 3, 0}, {4, 8, 1}, {4, 8, 3}});
        x.thing(1, 900, 900, 0, 0);
        x.worth(0, 3, 100);
        // What is over: 6 + 4 - 2 = 8, 2 for each.
        int[][] want = {{10, 4, 6, 4}, {8, 4, 4, 2}, {3, 5, -2, -4}};
        for (int h = 0; h < 3; h++) {
            for (int what = 0; what < 4; what++) {
                due("23 settled(" + h + ", " + what + ")", x.settled(h, what), want[h][what]);
            }
        }
        due("23 heir", x.settled(3, 0), -100000);
        due("23 heir", x.settled(-1, 0), -100000);
        due("23 what", x.settled(0, 4), -100000);
        due("23 what", x.settled(0, -1), -100000);
        due("23 no heirs", new HouseSorted().settled(0, 0), -100000);
        x = withWorths(new int[][] {{3, 4}});
        due("23 one heir's claim is all", x.settled(0, 1), 7);
        due("23 one heir pays nothing", x.settled(0, 3), 0);
        x = withWorths(new int[][] {{5, 0}, {5, 6}, {0, 2}});
        due("23 a claim divided down", x.settled(0, 1), 1);
        due("23 the least number of several gets it", x.settled(0, 0), 5);
        due("23 pays", x.settled(0, 2), 4);
        due("23 what is over is divided down", x.settled(0, 3), 2);
        x = new HouseSorted();
        x.heir();
        due("23 nothing shared", x.settled(0, 3), 0);
    }

    private static void loads() {
        HouseSorted x = new HouseSorted();
        for (int w = 0; w < 5; w++) {
            due("24 nothing goes", x.loads(w), 0);
        }
        due("24 way 5", x.loads(5), HouseSorted.BAD);
        due("24 way -1", x.loads(-1), HouseSorted.BAD);
        x.thing(50, 0, 0, 0, 0);
        x.thing(50, 0, 0, 0, 0);
        due("24 just full", x.loads(TIP), 1);
        x.thing(1, 0, 0, 0, 0);
        due("24 one more", x.loads(TIP), 2);
        tell(x, "van 50;");
        due("24 smaller vans", x.loads(TIP), 3);
        tell(x, "van 49;");
        due("24 too heavy", x.loads(TIP), HouseSorted.NONE);
        due("24 another way is not touched", x.loads(SALE), 0);
        due("25 too heavy, a light one", x.load(2), HouseSorted.NONE);
        x = withLaws("van 10;");
        int[] weights = {4, 4, 4, 6, 6, 6, 5, 5, 3, 7};
        for (int w : weights) {
            x.thing(w, 0, 0, 0, 0);
        }
        due("24 taken as they come they need more", x.loads(TIP), 5);
        x = withLaws("van 1;");
        for (int i = 0; i < 10; i++) {
            x.thing(1, 0, 0, 0, 0);
        }
        due("24 each alone", x.loads(TIP), 10);
        due("25 each alone", x.load(9), 9);
    }

    private static void dueLoads(String laws, int[] weights, int[] want) {
        HouseSorted x = withLaws(laws);
        for (int w : weights) {
            x.thing(w, 0, 0, 0, 0);
            x.thing(1, 500, 500, 0, 0);
        }
        for (int i = 0; i < weights.length; i++) {
            due("25 load of the " + i + "th by '" + laws + "'", x.load(2 * i), want[i]);
        }
    }

    private static void load() {
        dueLoads("van 10;", new int[] {4, 4, 6, 6}, new int[] {0, 1, 0, 1});
        dueLoads("van 10;", new int[] {2, 3, 5, 10}, new int[] {0, 0, 0, 1});
        dueLoads("van 10;", new int[] {2, 3, 7, 8}, new int[] {0, 1, 1, 0});
        dueLoads("van 10;", new int[] {3, 3, 3, 3}, new int[] {0, 0, 0, 1});
        dueLoads("van 10;", new int[] {6, 5, 4, 5}, new int[] {0, 1, 0, 1});
        HouseSorted x = new HouseSorted();
        due("25 no thing", x.load(0), HouseSorted.BAD);
        x.thing(1, 0, 0, 0, 0);
        due("25 alone", x.load(0), 0);
        due("25 thing 1", x.load(1), HouseSorted.BAD);
        due("25 thing -1", x.load(-1), HouseSorted.BAD);
        tell(x, "van 3;");
        x.thing(4, 0, 0, 0, GUN_MARK | NAME_MARK);
        due("25 a heavy one of its way", x.load(0), HouseSorted.NONE);
        x.gone();
        x.thing(4, 0, 0, 0, NAME_MARK);
        due("25 a heavy one of another way", x.load(0), 0);
        due("25 the heavy one", x.load(1), HouseSorted.NONE);
    }

    private static void sheet() {
        HouseSorted x = new HouseSorted();
        int[][] bad = {{-1, 0, 0}, {4, 0, 0}, {0, -1, 0}, {0, 3, 0}, {0, 0, 61}, {4, 0, -1}, {0, 3, -1},
            {0, 0, MOST_INT}, {LEAST_INT, 0, 1}};
        for (int[] b : bad) {
            due("26 sheet(" + b[0] + ", " + b[1] + ", " + b[2] + ")", x.sheet(b[0], b[1], b[2]), HouseSorted.BAD);
        }
        due("26 below 0", x.sheet(0, 0, -1), -14);
        due("26 far below 0", x.sheet(3, 2, LEAST_INT), -14);
        due("26 still nothing", x.lay(0, 0, 1), -11);
        due("26 of no cells", x.sheet(0, 0, 0), 1);
        due("27 of no cells", x.lay(0, 0, 1), -12);
        due("26 of most cells", x.sheet(3, 2, 60), 1);
        due("27 the last cell", x.lay(3, 59, 1), 1);
        due("27 behind it", x.lay(3, 60, 1), -12);
        x.heir();
        x.thing(1, 0, 0, 0, 0);
        due("28 the last cell", x.worths(0, 3, 2, 59), 1);
        due("26 refused", x.sheet(3, 2, -5), -14);
        due("26 it is as it was", x.worths(0, 3, 2, 59), 0);
        x.lay(3, 0, 1);
        due("26 new again", x.sheet(3, 1, 60), 1);
        due("28 the first cell is 0", x.worths(0, 3, 1, 0), 1);
        x.worth(0, 0, 1);
        due("28 all cells are 0", x.worths(0, 3, 1, 59), 1);
        due("9 worth", x.worth(0, 0, 0), 0);
    }

    private static void lay() {
        HouseSorted x = new HouseSorted();
        x.heir();
        x.thing(1, 0, 0, 0, 0);
        due("27 k", x.lay(-1, 0, 0), HouseSorted.BAD);
        due("27 k", x.lay(4, 0, 0), HouseSorted.BAD);
        due("27 nothing before index", x.lay(0, -1, 0), -11);
        for (int lane = 0; lane < 3; lane++) {
            x.sheet(lane, lane, 2);
            due("27 index -1", x.lay(lane, -1, 0), -12);
            due("27 index 2", x.lay(lane, 2, 0), -12);
            due("27 index least", x.lay(lane, LEAST_INT, 0), -12);
            due("27 index most", x.lay(lane, MOST_INT, 0), -12);
        }
        due("27 lowest bits", x.lay(0, 0, 256 + 9), 1);
        due("28 of bytes", x.worths(0, 0, 0, 0), 1);
        due("9 of bytes", x.worth(0, 0, 0), 9);
        due("27 below 0", x.lay(0, 0, 200), 1);
        due("28 of bytes below 0", x.worths(0, 0, 0, 0), -20);
        due("27 lowest bits", x.lay(1, 0, 65536 + 7), 1);
        due("28 of shorts", x.worths(0, 1, 1, 0), 1);
        due("9 of shorts", x.worth(0, 0, 0), 7);
        due("27 a short is no byte", x.lay(1, 0, 256 + 7), 1);
        due("28 of shorts", x.worths(0, 1, 1, 0), -20);
        due("27 an int is no short", x.lay(2, 0, 65536 + 7), 1);
        due("28 of ints", x.worths(0, 2, 2, 0), -20);
        due("27 an int", x.lay(2, 0, 100), 1);
        due("28 of ints", x.worths(0, 2, 2, 0), 1);
        due("9 of ints", x.worth(0, 0, 0), 100);
    }

    private static void worths() {
        HouseSorted x = new HouseSorted();
        due("28 no heir", x.worths(0, 0, 0, 0), HouseSorted.BAD);
        addHeirs(x, 2);
        due("28 nothing", x.worths(0, 0, 0, 0), -11);
        x.sheet(0, 1, 4);
        due("28 no things", x.worths(0, 0, 1, 99), 0);
        due("28 another lane without things", x.worths(0, 0, 2, 0), -13);
        x.thing(1, 0, 0, 0, 0);
        x.thing(1, 0, 0, 0, 0);
        x.thing(1, 0, 0, 0, 0);
        int[] cells = {5, 0, 100, 101};
        for (int i = 0; i < 4; i++) {
            x.lay(0, i, cells[i]);
        }
        due("28 how many became others", x.worths(1, 0, 1, 0), 2);
        due("9 of the heir", x.worth(1, 0, 5), 5);
        due("9 of the heir", x.worth(1, 1, 0), 0);
        due("9 of the heir", x.worth(1, 2, 100), 100);
        due("9 of the other heir", x.worth(0, 0, 0), 0);
        due("28 again", x.worths(1, 0, 1, 0), 0);
        due("28 no worth", x.worths(1, 0, 1, 1), -22);
        due("28 no worth before index", x.worths(1, 0, 1, 2), -21);
        due("28 no worth before index", x.worths(1, 0, 1, 3), -20);
        due("28 index at once", x.worths(1, 0, 1, 4), -12);
        due("28 index below 0", x.worths(1, 0, 1, -1), -12);
        due("28 index most", x.worths(1, 0, 1, MOST_INT), -12);
        due("28 index least", x.worths(1, 0, 1, LEAST_INT), -12);
        x.lay(0, 3, 9);
        due("28 index behind", x.worths(1, 0, 1, 2), -12);
        due("9 none changed", x.worth(1, 0, 5), 5);
        x.lay(0, 3, -1);
        due("28 below 0", x.worths(1, 0, 1, 1), -22);
        due("28 cast", x.worths(1, 0, 0, 0), -13);
        due("28 cast before index", x.worths(1, 0, 2, -1), -13);
        due("28 null", x.worths(1, 3, 0, -1), -11);
        int[][] bad = {{2, 0, 1}, {-1, 0, 1}, {0, 4, 1}, {0, -1, 1}, {0, 0, 3}, {0, 0, -1}, {0, 3, 3}};
        for (int[] b : bad) {
            due("28 wrong", x.worths(b[0], b[1], b[2], 0), HouseSorted.BAD);
        }
    }

    private static void count() {
        HouseSorted x = withLaws("van 7;keep 3;fur kin;");
        addHeirs(x, 3);
        x.thing(1, 0, 0, 0, NAME_MARK);
        x.thing(1, 0, 0, 0, FUR_MARK);
        x.thing(1, 0, 0, 0, 0);
        x.thing(1, 0, 0, 0, GUN_MARK);
        x.thing(1, 0, 0, 0, 0);
        x.worth(2, 2, 1);
        int[] want = {3, 5, 3, 3};
        for (int what = 0; what < 4; what++) {
            due("29 count(" + what + ")", x.count(what), want[what]);
        }
        due("29 count(-1)", x.count(-1), HouseSorted.BAD);
        due("29 count(4)", x.count(4), HouseSorted.BAD);
        tell(x, "");
        due("29 no laws are told now", x.count(2), 0);
        due("29 the fur goes to sale now", x.count(3), 2);
    }

    public static void main(String[] args) {
        newObject();
        feed();
        end();
        lawsThatHold();
        faults();
        faultAfterwards();
        law();
        heir();
        thing();
        worth();
        gone();
        look();
        told();
        waysOfThings();
        way();
        asks();
        turns();
        sharedThings();
        lie();
        gain();
        sum();
        envies();
        envy();
        fairest();
        bid();
        settled();
        loads();
        load();
        sheet();
        lay();
        worths();
        count();
        System.out.println(checks + " answers looked at, " + wrong + " not as due");
        if (wrong != 0) {
            System.exit(1);
        }
    }
}
