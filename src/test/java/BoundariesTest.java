import java.util.Arrays;
import java.util.function.IntUnaryOperator;

/**
 * Each sentence of the document that names a boundary has a test of its own, named by its promise: the last
 * number that is taken and the first that is not, the empty and the full, what wraps around.
 */
public final class BoundariesTest {
    private static final int BAD = -1, STATE = -2, FULL = -3, NONE = -4, NOT_SETTLED = -100000;
    private static final int NULL_FAULT = -11, INDEX_FAULT = -12, CAST_FAULT = -13, SIZE_FAULT = -14;
    private static final int LEAST_INT = Integer.MIN_VALUE, MOST_INT = Integer.MAX_VALUE;
    private static final int KIN = 0, SALE = 1, GIFT = 2, TIP = 3, PAPER = 4;
    private static final int PAPER_MARK = 1, FUR_MARK = 2, GUN_MARK = 4, NAME_MARK = 8;
    private static final String[] LAWS = {"keep", "sale", "gift", "van", "look", "fur", "gun"};
    private static final int[] USUAL = {10, 200, 1, 100, 20, SALE, TIP};
    private static final int[] LEAST = {0, 0, 0, 1, 0};
    private static final int[] MOST = {99, 1000, 100, 200, 1000};
    private static final String[] WAYS = {"kin", "sale", "gift", "tip"};
    private static final String SEVEN = "keep 1;sale 2;gift 3;van 4;look 5;fur kin;gun kin;";
    private static int checks = 0;
    private static int wrong = 0;

    private static void due(String call, long got, long want) {
        checks++;
        if (got != want) {
            wrong++;
            System.out.println(call + " answered " + got + ", due is " + want);
        }
    }

    /** Numbers from least to most are taken, those on both sides are BAD. */
    private static void dueTaken(String call, int least, int most, IntUnaryOperator answer, int taken) {
        due(call + " of " + least, answer.applyAsInt(least), taken);
        due(call + " of " + most, answer.applyAsInt(most), taken);
        dueRefused(call, least, most, answer, BAD);
    }

    private static void dueRefused(String call, int least, int most, IntUnaryOperator answer, int refused) {
        for (int v : new int[] {least - 1, most + 1, LEAST_INT, MOST_INT}) {
            due(call + " of " + v, answer.applyAsInt(v), refused);
        }
    }

    // ---- houses

    private static String repeated(char c, int n) {
        return String.valueOf(c).repeat(n);
    }

    /** THE TAPE gets these bytes and no more; it must be empty and they at most 160. */
    private static void feedText(HouseSorted x, String text) {
        String padded = text + repeated(' ', (8 - text.length() % 8) % 8);
        for (int i = 0; i < padded.length(); i += 8) {
            x.feed(eightOf(padded.substring(i, i + 8)));
        }
        x.end(text.length());
    }

    private static long eightOf(String eight) {
        long v = 0;
        for (int i = 0; i < 8; i++) {
            v = v << 8 | eight.charAt(i) & 255;
        }
        return v;
    }

    private static int tell(HouseSorted x, String text) {
        feedText(x, text);
        return x.laws();
    }

    private static HouseSorted withLaws(String text) {
        HouseSorted x = new HouseSorted();
        if (tell(x, text) < 0) {
            due("laws of '" + text + "'", BAD, 0);
        }
        return x;
    }

    private static HouseSorted withTape(int length) {
        HouseSorted x = new HouseSorted();
        feedText(x, repeated(' ', length));
        return x;
    }

    private static HouseSorted withHeirs(int n) {
        return addHeirs(new HouseSorted(), n);
    }

    private static HouseSorted addHeirs(HouseSorted x, int n) {
        for (int i = 0; i < n; i++) {
            x.heir();
        }
        return x;
    }

    private static HouseSorted addThings(HouseSorted x, int n, int weight, int marks) {
        for (int i = 0; i < n; i++) {
            x.thing(weight, 0, 0, 0, marks);
        }
        return x;
    }

    /** HEIRS and as many THINGS with a name on them. */
    private static HouseSorted house(int heirs, int things) {
        return addThings(withHeirs(heirs), things, 1, NAME_MARK);
    }

    /** HEIRS with these WORTHS of THINGS that all have a name on them. */
    private static HouseSorted withWorths(int[]... worths) {
        HouseSorted x = house(worths.length, worths[0].length);
        for (int h = 0; h < worths.length; h++) {
            for (int t = 0; t < worths[h].length; t++) {
                x.worth(h, t, worths[h][t]);
            }
        }
        return x;
    }

    private static int[] row(int... numbers) {
        return numbers;
    }

    private static int[] same(int v, int n) {
        int[] all = new int[n];
        Arrays.fill(all, v);
        return all;
    }

    private static int power(int base, int n) {
        int all = 1;
        for (int i = 0; i < n; i++) {
            all *= base;
        }
        return all;
    }

    /** The number of a SHARING, told by a text: the HEIR of each SHARED THING. */
    private static int numberOf(String takers, int heirs) {
        int number = 0;
        for (int j = takers.length() - 1; j >= 0; j--) {
            number = number * heirs + takers.charAt(j) - '0';
        }
        return number;
    }

    // ---- there is no such HEIR, THING, SHEET

    private static void noSuchHeir() {
        for (int heirs = 0; heirs <= 4; heirs++) {
            HouseSorted x = house(heirs, 2);
            x.sheet(0, 0, 2);
            for (int h : new int[] {-1, heirs, 4, LEAST_INT, MOST_INT}) {
                String when = " of heir " + h + " of " + heirs;
                due("9 worth" + when, x.worth(h, 0, 0), BAD);
                due("16 lie" + when, x.lie(0, h, 0, 0), BAD);
                due("17 gain" + when, x.gain(0, h), BAD);
                due("18 sum" + when, x.sum(0, h, 0), BAD);
                due("18 sum by the other" + when, x.sum(0, 0, h), BAD);
                due("19 envies" + when, x.envies(0, h, 0), BAD);
                due("19 envied" + when, x.envies(0, 0, h), BAD);
                due("23 settled" + when, x.settled(h, 0), NOT_SETTLED);
                due("28 worths" + when, x.worths(h, 0, 0, 0), BAD);
            }
        }
    }

    private static void lastHeir() {
        for (int heirs = 1; heirs <= 4; heirs++) {
            HouseSorted x = house(heirs, 2);
            x.sheet(0, 0, 2);
            int h = heirs - 1;
            String when = " of the last of " + heirs + " heirs";
            due("9 worth" + when, x.worth(h, 0, 0), 0);
            due("16 lie" + when, x.lie(0, h, 0, 0), x.turns(0));
            due("17 gain" + when, x.gain(0, h), 0);
            due("18 sum" + when, x.sum(0, h, h), 0);
            due("19 envies" + when, x.envies(0, h, 0), heirs == 1 ? BAD : 0);
            due("19 envied" + when, x.envies(0, 0, h), heirs == 1 ? BAD : 0);
            due("23 settled" + when, x.settled(h, 0), 0);
            due("28 worths" + when, x.worths(h, 0, 0, 0), 0);
        }
    }

    private static void noSuchThing() {
        for (int things = 0; things <= 10; things++) {
            HouseSorted x = house(1, things);
            for (int t : new int[] {-1, things, 10, LEAST_INT, MOST_INT}) {
                String when = " of thing " + t + " of " + things;
                due("9 worth" + when, x.worth(0, t, 0), BAD);
                due("11 look" + when, x.look(t, 0, 0), BAD);
                due("12 told" + when, x.told(t, 0), BAD);
                due("14 asks" + when, x.asks(t), BAD);
                due("16 lie" + when, x.lie(0, 0, t, 0), BAD);
                due("22 bid" + when, x.bid(t), BAD);
                due("25 load" + when, x.load(t), BAD);
            }
        }
    }

    private static void lastThing() {
        for (int things = 1; things <= 10; things++) {
            HouseSorted x = house(1, things);
            int t = things - 1;
            String when = " of the last of " + things + " things";
            due("9 worth" + when, x.worth(0, t, 0), 0);
            due("11 look" + when, x.look(t, 0, 0), 1);
            due("12 told" + when, x.told(t, 0), 1);
            due("14 asks" + when, x.asks(t), 0);
            due("16 lie" + when, x.lie(0, 0, t, 0), 0);
            due("22 bid" + when, x.bid(t), 0);
            due("25 load" + when, x.load(t), 0);
        }
    }

    private static void noSuchSheet() {
        HouseSorted x = house(1, 1);
        dueTaken("26 sheet", 0, 3, k -> x.sheet(k, 0, 1), 1);
        dueTaken("27 lay on sheet", 0, 3, k -> x.lay(k, 0, 0), 1);
        dueTaken("28 worths of sheet", 0, 3, k -> x.worths(0, k, 0, 0), 0);
    }

    /** BAD, STATE, FULL, NONE: the first that fits. */
    private static void firstThatFits() {
        HouseSorted x = new HouseSorted();
        due("15 BAD before STATE", x.turns(2), BAD);
        due("17 BAD before STATE", x.gain(2, 0), BAD);
        due("22 BAD before STATE", x.bid(0), BAD);
        x.thing(1, 0, 0, 0, 0);
        due("16 BAD before STATE", x.lie(0, 0, 0, 101), BAD);
        due("22 STATE before NONE", x.bid(0), STATE);
        addThings(x, 9, 1, 0);
        due("8 FULL", x.thing(1, 0, 0, 0, 0), FULL);
        due("8 BAD before FULL", x.thing(51, 0, 0, 0, 0), BAD);
        x = withLaws("van 1;");
        x.thing(2, 0, 0, 0, 0);
        due("24 BAD before NONE", x.loads(5), BAD);
        due("25 BAD before NONE", x.load(1), BAD);
        due("26 k before the size", x.sheet(4, 0, -1), BAD);
        due("26 lane before the size", x.sheet(0, 3, -1), BAD);
        due("27 k before nothing", x.lay(4, 0, 0), BAD);
    }

    private static void constants() {
        due("BAD", HouseSorted.BAD, -1);
        due("STATE", HouseSorted.STATE, -2);
        due("FULL", HouseSorted.FULL, -3);
        due("NONE", HouseSorted.NONE, -4);
    }

    // ---- promise 1

    private static void newObjectIsEmpty() {
        for (int what = 0; what <= 3; what++) {
            due("1 new: count " + what, new HouseSorted().count(what), 0);
        }
        for (int k = 0; k <= 6; k++) {
            due("1 new: law " + k, new HouseSorted().law(k), USUAL[k]);
        }
        for (int k = 0; k <= 3; k++) {
            due("1 new: sheet " + k + " of nothing", new HouseSorted().lay(k, 0, 0), NULL_FAULT);
        }
        due("1 new: no bytes", new HouseSorted().end(0), 0);
        due("1 new: no fault", new HouseSorted().fault(), 0);
    }

    private static void newObjectHasNothingOfAnother() {
        HouseSorted full = withLaws(SEVEN);
        addThings(addHeirs(full, 4), 10, 1, NAME_MARK);
        full.sheet(0, 0, 60);
        feedText(full, repeated('!', 160));
        newObjectIsEmpty();
    }

    /** At most 512 calls: the last of them still holds. */
    private static void lastOfManyCalls() {
        HouseSorted x = new HouseSorted();
        for (int n = 0; n < 255; n++) {
            due("8 thing again and again", x.thing(1, 0, 0, 0, 0), 0);
            due("10 gone again and again", x.gone(), 0);
        }
        due("8 the 511th call", x.thing(50, 0, 0, 0, 0), 0);
        due("12 the 512th call", x.told(0, 0), 50);
    }

    // ---- promises 2 and 3

    private static void tapeTakesWhatFits() {
        for (int had = 0; had <= 160; had++) {
            HouseSorted x = withTape(had);
            int want = had + 8 <= 160 ? had + 8 : FULL;
            due("2 feed behind " + had, x.feed(0), want);
            int has = want == FULL ? had : want;
            due("3 no more than it has, after a feed behind " + had, x.end(has + 1), BAD);
            due("3 what it has, after a feed behind " + had, x.end(has), has);
        }
    }

    private static void feedTakesAnyNumber() {
        for (long v : new long[] {0, 1, -1, Long.MIN_VALUE, Long.MAX_VALUE}) {
            due("2 feed of " + v, new HouseSorted().feed(v), 8);
        }
    }

    private static void highestByteComesFirst() {
        for (int p = 0; p < 8; p++) {
            HouseSorted x = new HouseSorted();
            x.feed(0x2020202020202020L | 0xffL << 56 - 8 * p);
            due("2 the byte at " + p, x.laws(), -10 - p);
            due("5 the byte at " + p, x.fault(), 1);
        }
        HouseSorted x = new HouseSorted();
        x.feed(eightOf("keep 98;"));
        due("2 a law in eight bytes", x.laws(), 1);
        due("2 a law in eight bytes", x.law(0), 98);
    }

    private static void endKeepsWhatThereIs() {
        for (int had : new int[] {0, 1, 8, 159, 160}) {
            for (int n : new int[] {-1, had + 1, 161, LEAST_INT, MOST_INT}) {
                HouseSorted x = withTape(had);
                due("3 end(" + n + ") of " + had, x.end(n), BAD);
                due("3 what there was after end(" + n + ")", x.end(had), had);
            }
            HouseSorted x = withTape(had);
            due("3 end of all " + had, x.end(had), had);
            due("3 end of none of " + had, x.end(0), had);
            due("3 end of none again", x.end(0), 0);
        }
    }

    private static void bytesComeBehindWhatIsKept() {
        HouseSorted x = new HouseSorted();
        x.feed(eightOf("keep 55;"));
        x.end(6);
        x.feed(eightOf(";       "));
        due("3 what was cut off is gone", x.laws(), 1);
        due("3 what was cut off is gone", x.law(0), 5);
        x.feed(eightOf("van 77;!"));
        x.end(0);
        due("2 from place 0 again", x.feed(eightOf("van 66; ")), 8);
        due("4 the new bytes", x.laws(), 1);
        due("6 the new bytes", x.law(3), 66);
    }

    // ---- promise 4: TOKENS

    private static void dueLaws(String text, int told) {
        HouseSorted x = new HouseSorted();
        due("4 laws of '" + text + "'", tell(x, text), told);
        due("5 fault of '" + text + "'", x.fault(), 0);
        due("29 laws told by '" + text + "'", x.count(2), told);
    }

    private static void dueFault(String text, int place, int fault) {
        HouseSorted x = new HouseSorted();
        due("4 place of the fault of '" + text + "'", tell(x, text), -10 - place);
        due("5 fault of '" + text + "'", x.fault(), fault);
        due("29 laws told by '" + text + "'", x.count(2), 0);
    }

    private static void emptyTexts() {
        dueLaws("", 0);
        dueLaws(" ", 0);
        dueLaws(repeated(' ', 159), 0);
        dueLaws(repeated(' ', 160), 0);
    }

    private static void fullTexts() {
        dueLaws(repeated(' ', 153) + "keep 5;", 1);
        dueLaws("keep" + repeated(' ', 154) + "5;", 1);
        dueLaws("keep 5" + repeated(' ', 153) + ";", 1);
        dueLaws("keep 5;" + repeated(' ', 153), 1);
        dueFault("keep" + repeated(' ', 156), 160, 2);
        dueFault("keep 5" + repeated(' ', 154), 160, 2);
        dueFault(repeated(' ', 154) + "keep 5", 160, 2);
        dueFault(repeated('a', 160), 0, 1);
        dueFault(repeated('1', 160), 0, 1);
        dueFault(repeated(';', 160), 0, 2);
        dueFault("keep " + repeated('0', 155), 5, 1);
    }

    private static void placesFromZeroOn() {
        for (int p = 0; p < 160; p++) {
            dueFault(repeated(' ', p) + "!" + repeated(' ', 159 - p), p, 1);
            dueFault(repeated(' ', p) + ";" + repeated(' ', 159 - p), p, 2);
        }
    }

    private static boolean isLetter(int b) {
        return b >= 97 && b <= 122;
    }

    private static boolean isFigure(int b) {
        return b >= 48 && b <= 57;
    }

    /** All bytes: only 32 is a blank, a .. z are of NAMES, 0 .. 9 of NUMBERS, and there is the ; . */
    private static void everyByteWhereALawMayStand() {
        for (int b = 0; b < 256; b++) {
            for (String before : new String[] {"", "keep 5;", "keep 5;  "}) {
                String text = before + (char) b;
                if (b == ' ') {
                    dueLaws(text, before.isEmpty() ? 0 : 1);
                } else {
                    dueFault(text, before.length(), isFigure(b) || b == ';' ? 2 : 1);
                }
            }
        }
    }

    private static void everyByteBehindAName() {
        for (int b = 0; b < 256; b++) {
            String text = "keep" + (char) b;
            if (isLetter(b)) {
                dueFault(text, 0, 1);
            } else if (isFigure(b) || b == ' ') {
                dueFault(text, 5, 2);
            } else {
                dueFault(text, 4, b == ';' ? 2 : 1);
            }
        }
    }

    private static void everyByteBehindANumber() {
        for (int b = 0; b < 256; b++) {
            String text = "keep 5" + (char) b;
            if (b == ';') {
                dueLaws(text, 1);
            } else if (isFigure(b) || b == ' ') {
                dueFault(text, 7, 2);
            } else {
                dueFault(text, 6, 1);
            }
        }
    }

    private static void tokensAreAsLongAsMayBe() {
        dueLaws("keep5;", 1);
        dueLaws("keep 5;sale 5;", 2);
        dueLaws("  keep  5  ;  ", 1);
        dueFault("keepsale 5;", 0, 1);
        dueFault("ke ep 5;", 0, 1);
        dueFault("furkin;", 0, 1);
        dueFault("keep 1 2;", 7, 2);
        dueFault("keep 5;;", 7, 2);
        dueFault("keep 5 ; ;", 9, 2);
        dueFault("keep 5sale", 6, 2);
    }

    private static void numbersOfOneToFourFigures() {
        dueFault("keep ;", 5, 2);
        for (int figures = 1; figures <= 4; figures++) {
            HouseSorted x = withLaws("keep " + repeated('0', figures - 1) + "7;");
            due("6 keep of " + figures + " figures", x.law(0), 7);
        }
        dueFault("keep 00007;", 5, 1);
        dueFault("sale 9999;", 5, 3);
        dueFault("sale 10000;", 5, 1);
        dueFault("sale 99999;", 5, 1);
        dueFault("sale 4294967297;", 5, 1);
        HouseSorted x = withLaws("sale 0987; look 0654;");
        due("6 figures in order", x.law(1), 987);
        due("6 figures in order", x.law(4), 654);
    }

    private static void tooLongNumberWhereNoneMayStand() {
        dueFault("12345", 0, 1);
        dueFault("keep 5 12345", 7, 1);
        dueFault("fur 12345;", 4, 1);
        dueFault("1234", 0, 2);
        dueFault("keep 5 1234", 7, 2);
        dueFault("fur 1234;", 4, 2);
    }

    private static void namesALetterShortOrLong() {
        String[] names = {"keep", "sale", "gift", "van", "look", "fur", "gun", "kin", "tip"};
        for (String name : names) {
            int last = name.length() - 1;
            dueFault(name.substring(0, last), 0, 1);
            dueFault(name.substring(1), 0, 1);
            dueFault(name + "a", 0, 1);
            dueFault(name + "z", 0, 1);
            dueFault(name + name, 0, 1);
            dueFault(name.substring(0, last) + (char) (name.charAt(last) + 1), 0, 1);
            dueFault((char) (name.charAt(0) - 1) + name.substring(1), 0, 1);
            dueFault(name.toUpperCase(), 0, 1);
            dueFault("gun " + name.substring(0, last) + ";", 4, 1);
            dueFault("gun " + name + "s;", 4, 1);
        }
        dueFault("paper 5;", 0, 1);
        dueFault("fur paper;", 4, 1);
        dueFault("none", 0, 1);
    }

    // ---- promise 4: laws

    private static void lawsTakeTheirBounds() {
        for (int law = 0; law < 5; law++) {
            for (int v : new int[] {LEAST[law], MOST[law]}) {
                HouseSorted x = new HouseSorted();
                due("4 " + LAWS[law] + " " + v, tell(x, LAWS[law] + " " + v + ";"), 1);
                due("6 " + LAWS[law] + " " + v, x.law(law), v);
                due("5 " + LAWS[law] + " " + v, x.fault(), 0);
            }
        }
    }

    private static void lawsRefuseWhatIsOutside() {
        for (int law = 0; law < 5; law++) {
            String name = LAWS[law] + " ";
            dueFault(name + (MOST[law] + 1) + ";", name.length(), 3);
            dueFault(name + "9999;", name.length(), 3);
        }
        dueFault("van 0;", 4, 3);
        dueFault("van 0000;", 4, 3);
        dueFault("keep -1;", 5, 1);
    }

    private static void furAndGunTakeFourWays() {
        for (int law = 5; law <= 6; law++) {
            for (int way = 0; way < 4; way++) {
                HouseSorted x = new HouseSorted();
                due("4 " + LAWS[law] + " " + WAYS[way], tell(x, LAWS[law] + " " + WAYS[way] + ";"), 1);
                due("6 " + LAWS[law] + " " + WAYS[way], x.law(law), way);
            }
            for (String other : new String[] {"keep", "van", "look", "fur", "gun", "0", "1", "9999", ";"}) {
                dueFault(LAWS[law] + " " + other, 4, 2);
            }
        }
    }

    private static void namesWhereNumbersAreDue() {
        for (int law = 0; law < 5; law++) {
            int place = LAWS[law].length() + 1;
            for (String other : new String[] {"keep", "sale", "kin", "tip", ";"}) {
                dueFault(LAWS[law] + " " + other, place, 2);
            }
            dueFault(LAWS[law] + " x", place, 1);
        }
    }

    private static void waysAreNoLaws() {
        dueFault("kin 5;", 0, 2);
        dueFault("tip 5;", 0, 2);
        dueLaws("fur sale;sale 5;", 2);
        dueLaws("sale 5;gun sale;", 2);
        dueLaws("fur gift;gift 5;gun gift;", 3);
    }

    private static void noLawAndAllLaws() {
        dueLaws("", 0);
        dueLaws(SEVEN, 7);
        dueLaws("gun kin;fur kin;look 5;van 4;gift 3;sale 2;keep 1;", 7);
        int[] want = {1, 2, 3, 4, 5, KIN, KIN};
        for (int k = 0; k < 7; k++) {
            due("6 law " + k + " of seven", withLaws(SEVEN).law(k), want[k]);
        }
    }

    private static String someLaw(int law) {
        return LAWS[law] + (law < 5 ? " 7;" : " gift;");
    }

    private static void whatIsNotToldIsUsual() {
        for (int law = 0; law < 7; law++) {
            HouseSorted x = withLaws(someLaw(law));
            for (int k = 0; k < 7; k++) {
                due("6 law " + k + " by '" + someLaw(law) + "'", x.law(k), k != law ? USUAL[k] : law < 5 ? 7 : GIFT);
            }
            tell(x, "");
            due("6 law " + law + " not told any more", x.law(law), USUAL[law]);
        }
    }

    private static void eachLawOnceAtMost() {
        for (int law = 0; law < 7; law++) {
            String once = someLaw(law);
            dueLaws(once, 1);
            dueFault(once + once, once.length(), 4);
            dueFault(once + " " + LAWS[law], once.length() + 1, 4);
            dueFault(SEVEN + once, SEVEN.length(), 4);
            String other = someLaw((law + 1) % 7);
            dueFault(once + other + once, once.length() + other.length(), 4);
        }
    }

    private static void lawsMayBeToldAgainByAnotherText() {
        HouseSorted x = withLaws("keep 5;");
        due("4 again", tell(x, "keep 6;"), 1);
        due("6 again", x.law(0), 6);
        tell(x, "keep 7; !");
        due("4 again, after a fault", tell(x, "keep 8;"), 1);
        due("6 again, after a fault", x.law(0), 8);
    }

    private static void theFirstFaultIsMet() {
        dueFault("keep 100!", 5, 3);
        dueFault("keep 100", 5, 3);
        dueFault("keep 100 100", 5, 3);
        dueFault("keep 5;keep!", 7, 4);
        dueFault("keep 5;keep 100;", 7, 4);
        dueFault("keep 5 keep 5;", 7, 2);
        dueFault("keep keep", 5, 2);
        dueFault("! keep 100;", 0, 1);
        dueFault("keep 5;sale 1001;!", 12, 3);
        dueFault("keep 5;tip;!", 7, 2);
        dueFault("fur sale;sale 3;sale 4;", 16, 4);
        dueFault("fur kin!", 7, 1);
        dueFault("fur kin kin;", 8, 2);
        dueFault("fur kin;fur keep;", 8, 4);
    }

    /** Every beginning of a text, with a FAULT at the end: the length. */
    private static void theEndOfEachBeginning() {
        String text = "van 12 ; fur tip;";
        int[] places = {-1, 0, 0, 3, 4, 5, 6, 7, -1, -1, 9, 9, 12, 13, 13, 13, 16, -1};
        int[] faults = {0, 1, 1, 2, 2, 2, 2, 2, 0, 0, 1, 1, 2, 2, 1, 1, 2, 0};
        int[] told = {0, 0, 0, 0, 0, 0, 0, 0, 1, 1, 0, 0, 0, 0, 0, 0, 0, 2};
        for (int n = 0; n <= text.length(); n++) {
            if (places[n] < 0) {
                dueLaws(text.substring(0, n), told[n]);
            } else {
                dueFault(text.substring(0, n), places[n], faults[n]);
            }
        }
    }

    private static void afterAFaultLawsStay() {
        String[] faulty = {"!", "keep 5;!", "keep", "keep 5", "keep 100;", "keep 5;keep 5;", SEVEN + "x",
            "keep 9;sale 9;gift 9;van 9;look 9;fur tip;gun gift"};
        for (String text : faulty) {
            HouseSorted x = withLaws(SEVEN);
            due("4 a fault in '" + text + "'", tell(x, text) <= -10 ? 1 : 0, 1);
            int[] want = {1, 2, 3, 4, 5, KIN, KIN};
            for (int k = 0; k < 7; k++) {
                due("4 law " + k + " stays after '" + text + "'", x.law(k), want[k]);
            }
            due("29 told laws stay after '" + text + "'", x.count(2), 7);
        }
    }

    private static void theTapeIsEmptyThen() {
        for (String text : new String[] {"", "keep 5;", "!", "keep", repeated(' ', 160), repeated('!', 160)}) {
            HouseSorted x = new HouseSorted();
            tell(x, text);
            due("4 no byte is left of '" + text + "'", x.end(1), BAD);
            due("4 no laws are left of '" + text + "'", x.laws(), 0);
            due("4 from place 0 on after '" + text + "'", x.feed(0), 8);
        }
    }

    // ---- promises 5 and 6

    private static void faultOfTheLatestLaws() {
        HouseSorted x = new HouseSorted();
        String[] texts = {"!", "keep", "keep 100;", "keep 1;keep 1;"};
        for (int fault = 1; fault <= 4; fault++) {
            tell(x, texts[fault - 1]);
            due("5 fault", x.fault(), fault);
            due("5 fault asked again", x.fault(), fault);
            feedText(x, "keep 5;");
            x.end(-1);
            due("5 no laws() since", x.fault(), fault);
            due("4 laws", x.laws(), 1);
            due("5 no fault", x.fault(), 0);
        }
    }

    private static void lawNumbers() {
        for (int k = 0; k <= 6; k++) {
            due("6 law " + k, new HouseSorted().law(k), USUAL[k]);
        }
        dueRefused("6 law", 0, 6, k -> new HouseSorted().law(k), BAD);
    }

    // ---- promises 7 to 10

    private static void fourHeirs() {
        HouseSorted x = new HouseSorted();
        for (int n = 0; n < 4; n++) {
            due("29 heirs before", x.count(0), n);
            due("7 heir", x.heir(), n);
        }
        for (int n = 0; n < 3; n++) {
            due("7 one more", x.heir(), FULL);
            due("29 heirs", x.count(0), 4);
        }
    }

    private static void tenThings() {
        HouseSorted x = new HouseSorted();
        for (int n = 0; n < 10; n++) {
            due("29 things before", x.count(1), n);
            due("8 thing", x.thing(n + 1, n, n, n, n), n);
        }
        for (int n = 0; n < 3; n++) {
            due("8 one more", x.thing(50, 50, 50, 50, 0), FULL);
            due("29 things", x.count(1), 10);
        }
        for (int n = 0; n < 10; n++) {
            for (int what = 0; what < 5; what++) {
                due("12 told(" + n + ", " + what + ")", x.told(n, what), what == 0 ? n + 1 : n);
            }
        }
        due("10 one goes", x.gone(), 9);
        due("8 one comes", x.thing(50, 50, 50, 50, 0), 9);
        due("8 one more", x.thing(50, 50, 50, 50, 0), FULL);
    }

    private static void boundsOfWeight() {
        dueTaken("8 weight", 1, 50, v -> new HouseSorted().thing(v, 0, 0, 0, 0), 0);
    }

    private static void boundsOfLow() {
        dueTaken("8 low below the greatest high", 0, 1000, v -> new HouseSorted().thing(1, v, 1000, 0, 0), 0);
        due("8 low and high 1001", new HouseSorted().thing(1, 1001, 1001, 0, 0), BAD);
        due("8 low and high -1", new HouseSorted().thing(1, -1, -1, 0, 0), BAD);
    }

    private static void boundsOfHigh() {
        dueTaken("8 high above the least low", 0, 1000, v -> new HouseSorted().thing(1, 0, v, 0, 0), 0);
    }

    private static void lowUpToHigh() {
        for (int v : new int[] {0, 1, 500, 999}) {
            due("8 low and high " + v, new HouseSorted().thing(1, v, v, 0, 0), 0);
            due("8 low below high " + v, new HouseSorted().thing(1, v, v + 1, 0, 0), 0);
            due("8 low above high " + v, new HouseSorted().thing(1, v + 1, v, 0, 0), BAD);
        }
        due("8 low and high 1000", new HouseSorted().thing(1, 1000, 1000, 0, 0), 0);
    }

    private static void boundsOfAge() {
        dueTaken("8 age", 0, 99, v -> new HouseSorted().thing(1, 0, 0, v, 0), 0);
    }

    private static void boundsOfMarks() {
        dueTaken("8 marks", 0, 15, v -> new HouseSorted().thing(1, 0, 0, 0, v), 0);
        for (int marks = 0; marks <= 15; marks++) {
            HouseSorted x = new HouseSorted();
            due("8 marks " + marks, x.thing(1, 0, 0, 0, marks), 0);
            due("12 marks " + marks, x.told(0, 4), marks);
        }
    }

    private static void refusedThingsDoNotCome() {
        int[][] refused = {{0, 0, 0, 0, 0}, {51, 0, 0, 0, 0}, {1, -1, 0, 0, 0}, {1, 1, 0, 0, 0}, {1, 0, 1001, 0, 0},
            {1, 0, 0, -1, 0}, {1, 0, 0, 100, 0}, {1, 0, 0, 0, -1}, {1, 0, 0, 0, 16}};
        HouseSorted x = new HouseSorted();
        for (int[] r : refused) {
            due("8 refused", x.thing(r[0], r[1], r[2], r[3], r[4]), BAD);
            due("29 none came", x.count(1), 0);
        }
        due("8 the first", x.thing(1, 0, 0, 0, 0), 0);
    }

    private static void boundsOfWorth() {
        HouseSorted x = house(1, 1);
        due("9 worth 0", x.worth(0, 0, 0), 0);
        due("9 worth 100", x.worth(0, 0, 100), 0);
        dueRefused("9 worth", 0, 100, v -> x.worth(0, 0, v), BAD);
        due("9 what it was", x.worth(0, 0, 0), 100);
        dueRefused("9 worth", 0, 100, v -> x.worth(0, 0, v), BAD);
        due("9 what it was", x.worth(0, 0, 0), 0);
    }

    private static void worthsAreZeroAtFirst() {
        HouseSorted x = house(4, 10);
        for (int h = 0; h < 4; h++) {
            for (int t = 0; t < 10; t++) {
                due("9 at first", x.worth(h, t, 10 * h + t), 0);
            }
        }
        for (int h = 0; h < 4; h++) {
            for (int t = 0; t < 10; t++) {
                due("9 each its own", x.worth(h, t, 0), 10 * h + t);
            }
        }
        HouseSorted later = house(1, 1);
        later.worth(0, 0, 9);
        later.heir();
        due("9 of an heir that came later", later.worth(1, 0, 0), 0);
    }

    private static void noneGoesOfNone() {
        HouseSorted x = new HouseSorted();
        due("10 of none", x.gone(), NONE);
        due("29 of none", x.count(1), 0);
        due("8 the first", x.thing(1, 0, 0, 0, 0), 0);
        due("10 the first", x.gone(), 0);
        due("10 of none again", x.gone(), NONE);
    }

    private static void allGo() {
        HouseSorted x = house(2, 10);
        for (int n = 9; n >= 0; n--) {
            due("10 gone", x.gone(), n);
            due("29 left", x.count(1), n);
            due("29 shared are left", x.count(3), n);
            due("12 it is no more", x.told(n, 0), BAD);
        }
        due("10 of none", x.gone(), NONE);
    }

    private static void whatGoesLeavesNothing() {
        HouseSorted x = house(4, 10);
        for (int h = 0; h < 4; h++) {
            x.worth(h, 8, 50 + h);
            x.worth(h, 9, 60 + h);
        }
        x.gone();
        due("8 another comes", x.thing(3, 0, 0, 0, 0), 9);
        due("12 nobody wants it", x.told(9, 5), TIP);
        due("29 it is not shared", x.count(3), 9);
        for (int h = 0; h < 4; h++) {
            due("9 its worths are 0", x.worth(h, 9, 0), 0);
            due("9 the others' stay", x.worth(h, 8, 0), 50 + h);
        }
    }

    // ---- promises 11 to 14

    private static void looksWithinWhatTheyWere() {
        int[][] taken = {{100, 300}, {101, 300}, {100, 299}, {100, 100}, {300, 300}, {200, 200}};
        for (int[] to : taken) {
            HouseSorted x = new HouseSorted();
            x.thing(1, 100, 300, 0, 0);
            due("11 look to " + to[0] + ", " + to[1], x.look(0, to[0], to[1]), 1);
            due("12 low", x.told(0, 1), to[0]);
            due("12 high", x.told(0, 2), to[1]);
        }
    }

    private static void looksNotWithin() {
        int[][] refused = {{99, 300}, {100, 301}, {99, 301}, {201, 200}, {300, 100}, {301, 301}, {99, 99}, {-1, 300},
            {100, 1001}, {LEAST_INT, 200}, {200, MOST_INT}, {MOST_INT, LEAST_INT}, {LEAST_INT, LEAST_INT}};
        HouseSorted x = new HouseSorted();
        x.thing(1, 100, 300, 0, 0);
        for (int[] to : refused) {
            due("11 look to " + to[0] + ", " + to[1], x.look(0, to[0], to[1]), BAD);
            due("12 low stays", x.told(0, 1), 100);
            due("12 high stays", x.told(0, 2), 300);
        }
    }

    private static void looksAtTheWidestAndTheNarrowest() {
        HouseSorted x = new HouseSorted();
        x.thing(1, 0, 1000, 0, 0);
        due("11 below all", x.look(0, -1, 1000), BAD);
        due("11 above all", x.look(0, 0, 1001), BAD);
        due("11 all", x.look(0, 0, 1000), 1);
        due("11 one number", x.look(0, 7, 7), 1);
        due("11 below it", x.look(0, 6, 7), BAD);
        due("11 above it", x.look(0, 7, 8), BAD);
        due("11 that again", x.look(0, 7, 7), 1);
    }

    private static void looksGoByTheLatest() {
        HouseSorted x = new HouseSorted();
        x.thing(1, 100, 300, 0, 0);
        x.look(0, 150, 250);
        due("11 what was once", x.look(0, 100, 250), BAD);
        due("11 what was once", x.look(0, 150, 300), BAD);
        due("11 what is", x.look(0, 150, 250), 1);
    }

    private static void whatIsTold() {
        HouseSorted x = new HouseSorted();
        x.thing(50, 999, 1000, 99, 15);
        int[] want = {50, 999, 1000, 99, 15, TIP};
        for (int what = 0; what <= 5; what++) {
            due("12 told " + what, x.told(0, what), want[what]);
        }
        dueRefused("12 told", 0, 5, what -> x.told(0, what), BAD);
    }

    private static int wayOf(String laws, int low, int age, int marks, int worth) {
        HouseSorted x = addHeirs(withLaws(laws), 4);
        x.thing(1, low, 1000, age, marks);
        x.worth(3, 0, worth);
        return x.told(0, 5);
    }

    private static void wayOfAPaperByItsAge() {
        due("12 age at most keep", wayOf("keep 30;", 0, 30, PAPER_MARK, 0), PAPER);
        due("12 age above keep", wayOf("keep 30;", 0, 31, PAPER_MARK, 0), TIP);
        due("12 keep 0, age 0", wayOf("keep 0;", 0, 0, PAPER_MARK, 0), PAPER);
        due("12 keep 0, age 1", wayOf("keep 0;", 0, 1, PAPER_MARK, 0), TIP);
        due("12 keep 99, age 99", wayOf("keep 99;", 0, 99, PAPER_MARK, 0), PAPER);
        due("12 no paper", wayOf("keep 30;", 0, 30, 0, 0), TIP);
        due("12 usual keep, age 10", wayOf("", 0, 10, PAPER_MARK, 0), PAPER);
        due("12 usual keep, age 11", wayOf("", 0, 11, PAPER_MARK, 0), TIP);
    }

    private static void wayByLowAndSale() {
        due("12 low is sale", wayOf("sale 70;", 70, 0, 0, 0), SALE);
        due("12 low is below sale", wayOf("sale 70;", 69, 0, 0, 0), GIFT);
        due("12 low is above sale", wayOf("sale 70;", 71, 0, 0, 0), SALE);
        due("12 sale 0, low 0", wayOf("sale 0;", 0, 0, 0, 100), SALE);
        due("12 sale 1000, low 1000", wayOf("sale 1000;", 1000, 0, 0, 100), SALE);
        due("12 sale 1000, low 999", wayOf("sale 1000;", 999, 0, 0, 100), KIN);
        due("12 usual sale, low 200", wayOf("", 200, 0, 0, 0), SALE);
        due("12 usual sale, low 199", wayOf("", 199, 0, 0, 0), GIFT);
    }

    private static void wayByLowAndGift() {
        due("12 low is gift", wayOf("gift 70;", 70, 0, 0, 0), GIFT);
        due("12 low is below gift", wayOf("gift 70;", 69, 0, 0, 0), TIP);
        due("12 gift 0, low 0", wayOf("gift 0;", 0, 0, 0, 0), GIFT);
        due("12 gift 100, low 99", wayOf("gift 100;", 99, 0, 0, 0), TIP);
        due("12 gift 100, low 100", wayOf("gift 100;", 100, 0, 0, 0), GIFT);
        due("12 gift above sale", wayOf("gift 100;sale 50;", 50, 0, 0, 0), SALE);
        due("12 usual gift, low 1", wayOf("", 1, 0, 0, 0), GIFT);
        due("12 usual gift, low 0", wayOf("", 0, 0, 0, 0), TIP);
    }

    private static void wayByWorths() {
        due("12 a worth of 0", wayOf("", 0, 0, 0, 0), TIP);
        due("12 a worth of 1", wayOf("", 0, 0, 0, 1), KIN);
        due("12 a worth of 1 before gift", wayOf("", 100, 0, 0, 1), KIN);
        due("12 sale before a worth", wayOf("", 200, 0, 0, 100), SALE);
        for (int h = 0; h < 4; h++) {
            HouseSorted x = withHeirs(4);
            x.thing(1, 0, 0, 0, 0);
            x.worth(h, 0, 1);
            due("12 heir " + h + " wants it", x.told(0, 5), KIN);
            x.worth(h, 0, 0);
            due("12 heir " + h + " wants it no more", x.told(0, 5), TIP);
        }
    }

    private static void waysOfGunsAndFurs() {
        for (int way = 0; way < 4; way++) {
            String laws = "gun " + WAYS[way] + ";fur " + WAYS[(way + 1) % 4] + ";";
            for (int marks = 2; marks <= 15; marks++) {
                if ((marks & (FUR_MARK | GUN_MARK)) != 0) {
                    int want = (marks & GUN_MARK) != 0 ? way : (way + 1) % 4;
                    due("12 marks " + marks + " by '" + laws + "'", wayOf(laws, 500, 0, marks, 100), want);
                    due("12 marks " + marks + " by '" + laws + "'", wayOf(laws, 0, 99, marks, 0), want);
                }
            }
        }
    }

    /** Each rule of THE WAY stands before those behind it. */
    private static void wayIsTheFirstThatFits() {
        int paperAndName = PAPER_MARK | NAME_MARK;
        due("12 1 before all", wayOf("gun gift;fur tip;", 200, 0, 15, 1), GIFT);
        due("12 2 before 3 to 8", wayOf("fur tip;", 200, 0, FUR_MARK | paperAndName, 1), TIP);
        due("12 3 before 4 to 8", wayOf("", 200, 0, paperAndName, 1), PAPER);
        due("12 4 before 5 to 8", wayOf("", 200, 11, paperAndName, 0), KIN);
        due("12 5 before 6 to 8", wayOf("", 200, 11, PAPER_MARK, 1), SALE);
        due("12 6 before 7 and 8", wayOf("", 199, 11, PAPER_MARK, 1), KIN);
        due("12 7 before 8", wayOf("", 199, 11, PAPER_MARK, 0), GIFT);
        due("12 8", wayOf("", 0, 11, PAPER_MARK, 0), TIP);
    }

    private static void waysOfNoThingsAndOfAll() {
        for (int way = 0; way <= 4; way++) {
            for (int what = 0; what <= 3; what++) {
                due("13 no things, way " + way + ", what " + what, new HouseSorted().way(way, what), 0);
            }
        }
        HouseSorted x = new HouseSorted();
        for (int n = 0; n < 10; n++) {
            x.thing(50, 999, 1000, 0, 0);
        }
        int[] want = {10, 500, 9990, 10000};
        for (int what = 0; what <= 3; what++) {
            due("13 ten things, what " + what, x.way(SALE, what), want[what]);
            due("13 none of them, what " + what, x.way(KIN, what), 0);
        }
    }

    private static void numbersOfWays() {
        HouseSorted x = new HouseSorted();
        dueTaken("13 way", 0, 4, way -> x.way(way, 0), 0);
        dueTaken("13 what", 0, 3, what -> x.way(0, what), 0);
        due("13 both", x.way(5, 4), BAD);
    }

    private static int asked(String laws, int low, int high, int age, int marks) {
        HouseSorted x = withLaws(laws);
        x.thing(1, low, high, age, marks);
        return x.asks(0);
    }

    private static void asksOnlyIfLowIsBelowSale() {
        due("14 low below sale", asked("sale 100;look 0;", 99, 300, 0, 0), 200);
        due("14 low is sale", asked("sale 100;look 0;", 100, 300, 0, 0), 0);
        due("14 low above sale", asked("sale 100;look 0;", 101, 300, 0, 0), 0);
        due("14 sale 0", asked("sale 0;look 0;", 0, 1000, 0, 0), 0);
        due("14 sale 1", asked("sale 1;look 0;", 0, 1000, 0, 0), 999);
    }

    private static void asksOnlyIfHighIsAtLeastSale() {
        due("14 high below sale", asked("sale 100;look 0;", 0, 99, 0, 0), 0);
        due("14 high is sale", asked("sale 100;look 0;", 0, 100, 0, 0), 0);
        due("14 high above sale", asked("sale 100;look 0;", 0, 101, 0, 0), 1);
        due("14 sale 1000, high 1000", asked("sale 1000;look 0;", 0, 1000, 0, 0), 0);
        due("14 sale 1000, high 999", asked("sale 1000;look 0;", 0, 999, 0, 0), 0);
    }

    private static void asksNothingBelowZero() {
        due("14 above 0", asked("sale 100;look 50;", 0, 151, 0, 0), 1);
        due("14 just 0", asked("sale 100;look 50;", 0, 150, 0, 0), 0);
        due("14 below 0", asked("sale 100;look 50;", 0, 149, 0, 0), 0);
        due("14 look 1000", asked("sale 1;look 1000;", 0, 1000, 0, 0), 0);
        due("14 look 998", asked("sale 1;look 998;", 0, 1000, 0, 0), 1);
        due("14 usual sale and look", asked("", 0, 221, 0, 0), 1);
    }

    private static void asksOfNoneThatAMarkSends() {
        for (int marks = 0; marks <= 15; marks++) {
            boolean paper = (marks & PAPER_MARK) != 0;
            boolean sent = marks > 1;
            due("14 kept, marks " + marks, asked("", 0, 300, 10, marks), sent || paper ? 0 : 80);
            due("14 not kept, marks " + marks, asked("", 0, 300, 11, marks), sent ? 0 : 80);
        }
        due("14 a gun for sale", asked("gun sale;", 0, 300, 0, GUN_MARK), 0);
        due("14 a fur for sale", asked("fur sale;", 0, 300, 0, FUR_MARK), 0);
    }

    private static void asksOfOneThatAHeirWants() {
        HouseSorted x = withHeirs(1);
        x.thing(1, 0, 300, 0, 0);
        x.worth(0, 0, 100);
        due("12 it goes to kin now", x.told(0, 5), KIN);
        due("14 its low may be at least sale", x.asks(0), 80);
    }

    // ---- promises 15 to 17

    private static void rules() {
        HouseSorted x = house(2, 2);
        dueTaken("15 turns by rule", 0, 1, x::turns, 2);
        dueTaken("16 lie by rule", 0, 1, rule -> x.lie(rule, 0, 0, 0), 2);
        dueTaken("17 gain by rule", 0, 1, rule -> x.gain(rule, 0), 0);
    }

    private static void noHeirsTakeTurns() {
        for (int things = 0; things <= 10; things += 5) {
            HouseSorted x = house(0, things);
            due("15 no heirs, rule 0", x.turns(0), STATE);
            due("15 no heirs, rule 1", x.turns(1), STATE);
        }
        HouseSorted x = house(0, 1);
        due("16 there is no such heir", x.lie(0, 0, 0, 0), BAD);
        due("17 there is no such heir", x.gain(0, 0), BAD);
    }

    private static void turnsOfNothing() {
        for (int heirs = 1; heirs <= 4; heirs++) {
            HouseSorted x = addThings(withHeirs(heirs), 3, 1, 0);
            due("15 nothing shared, rule 0", x.turns(0), 0);
            due("15 nothing shared, rule 1", x.turns(1), 0);
            due("16 nothing shared", x.lie(0, 0, 0, 100), 0);
            due("17 nothing shared", x.gain(1, 0), 0);
        }
    }

    private static void turnsGoRoundAndBack() {
        String[] round = {"0000000000", "0101010101", "0120120120", "0123012301"};
        String[] back = {"0000000000", "0110011001", "0122100122", "0123321001"};
        for (int heirs = 1; heirs <= 4; heirs++) {
            for (int things = 0; things <= 10; things++) {
                // All WORTHS are 0: they are taken in order.
                HouseSorted x = house(heirs, things);
                String of = " of " + things + " things by " + heirs + " heirs";
                due("15 turns round" + of, x.turns(0), numberOf(round[heirs - 1].substring(0, things), heirs));
                due("15 turns there and back" + of, x.turns(1), numberOf(back[heirs - 1].substring(0, things), heirs));
            }
        }
    }

    private static void theLeastNumberOfSeveralIsTaken() {
        due("15 all alike", withWorths(row(5, 5, 5), row(5, 5, 5)).turns(0), numberOf("010", 2));
        due("15 the later two alike", withWorths(row(4, 5, 5), row(1, 1, 1)).turns(0), numberOf("100", 2));
        due("15 one above", withWorths(row(5, 5, 6), row(0, 0, 0)).turns(0), numberOf("100", 2));
        due("15 worths of 0 are taken too", withWorths(row(0, 0), row(0, 0)).turns(0), numberOf("01", 2));
    }

    private static void boundsOfALie() {
        HouseSorted x = withWorths(row(50, 60), row(0, 0));
        due("15 as it is", x.turns(0), numberOf("10", 2));
        due("16 a lie of 0", x.lie(0, 0, 1, 0), numberOf("01", 2));
        due("16 a lie of 100", x.lie(0, 0, 0, 100), numberOf("01", 2));
        dueRefused("16 lie", 0, 100, v -> x.lie(0, 0, 0, v), BAD);
    }

    private static void liesAtATie() {
        HouseSorted x = withWorths(row(50, 60), row(0, 0));
        due("16 just below", x.lie(0, 0, 0, 59), numberOf("10", 2));
        due("16 alike: the least number", x.lie(0, 0, 0, 60), numberOf("01", 2));
        due("16 alike: the least number", x.lie(0, 0, 1, 50), numberOf("01", 2));
        due("16 just above", x.lie(0, 0, 1, 51), numberOf("10", 2));
        due("16 the truth", x.lie(0, 0, 0, 50), x.turns(0));
    }

    private static void liesLeaveWaysAsTheyAre() {
        HouseSorted x = withHeirs(2);
        x.thing(1, 0, 0, 0, 0);
        x.thing(1, 0, 0, 0, 0);
        x.worth(0, 0, 1);
        due("16 a lie of 0: it is shared still", x.lie(0, 0, 0, 0), 0);
        due("16 a lie of 100: it is not shared", x.lie(0, 1, 1, 100), 0);
        due("9 the worth is as it was", x.worth(0, 0, 1), 1);
        due("29 as many are shared", x.count(3), 1);
        due("12 its way", x.told(1, 5), TIP);
    }

    private static void gainsAtLeastZero() {
        due("17 every lie loses", withWorths(row(100, 0), row(100, 0)).gain(0, 0), 0);
        due("17 one thing", withWorths(row(100), row(100)).gain(0, 0), 0);
        due("17 the second of one thing", withWorths(row(100), row(100)).gain(0, 1), 0);
        due("17 alone", withWorths(row(1, 2, 3)).gain(0, 0), 0);
    }

    private static void gainsByTheEdges() {
        // As it is, it gets the first and the third; with 0 told for the first, the second and the first.
        due("17 only 0 is low enough", withWorths(row(100, 1, 0), row(0, 9, 8)).gain(0, 0), 1);
        // With 100 told for the first, it gets that and then the second and the third.
        due("17 only 100 is high enough", withWorths(row(98, 100, 100, 0, 0), row(50, 0, 0, 40, 30)).gain(0, 0), 98);
        // With 100, above 99, told for the third, it gets that and then the first and the second.
        due("17 only 100 is above 99", withWorths(row(99, 97, 96, 0, 0), row(0, 0, 50, 40, 30)).gain(0, 0), 96);
        due("17 101 would be needed", withWorths(row(100, 99, 98, 0, 0), row(0, 0, 50, 40, 30)).gain(0, 0), 0);
    }

    private static void gainsOfAFullHouse() {
        HouseSorted x = withWorths(row(90, 80, 0, 0, 0, 0, 0, 0, 0, 70), row(0, 0, 2, 3, 4, 5, 6, 7, 8, 100),
            row(0, 0, 2, 3, 4, 5, 6, 7, 8, 9), row(0, 0, 2, 3, 4, 5, 6, 7, 8, 9));
        due("15 ten shared by four", x.turns(0), numberOf("0001321321", 4));
        // Only if more is told for the last thing, it gets that and then the first and the second.
        due("16 the lie for the last thing", x.lie(0, 0, 9, 91), numberOf("0013213210", 4));
        due("17 ten shared by four", x.gain(0, 0), 70);
        due("17 ten shared by four, there and back", x.gain(1, 0), 70);
    }

    // ---- promises 18 to 20

    private static void numbersOfSharings() {
        for (int heirs = 1; heirs <= 4; heirs++) {
            for (int things = 0; things <= 10; things++) {
                HouseSorted x = house(heirs, things);
                int all = power(heirs, things);
                int last = heirs - 1;
                String of = " of " + things + " things by " + heirs + " heirs";
                dueTaken("18 sum of a sharing" + of, 0, all - 1, s -> x.sum(s, 0, last), 0);
                dueTaken("20 envy of a sharing" + of, 0, all - 1, x::envy, 0);
                if (heirs > 1) {
                    dueTaken("19 envies of a sharing" + of, 0, all - 1, s -> x.envies(s, 0, last), 0);
                }
            }
        }
    }

    private static void sharingsCountOnlyWhatIsShared() {
        HouseSorted x = withHeirs(3);
        x.thing(1, 0, 0, 0, 0);
        x.thing(1, 0, 0, 0, NAME_MARK);
        x.thing(1, 500, 500, 0, 0);
        x.thing(1, 0, 0, 0, NAME_MARK);
        x.worth(0, 1, 1);
        x.worth(0, 2, 10);
        x.worth(0, 3, 100);
        due("18 the first shared has place 0", x.sum(1, 0, 1), 1);
        due("18 the second shared has place 1", x.sum(2 * 3, 0, 2), 100);
        due("18 the last sharing", x.sum(8, 0, 2), 101);
        due("18 none behind it", x.sum(9, 0, 2), BAD);
    }

    private static void leastAndGreatestSum() {
        HouseSorted x = withWorths(same(100, 10), same(0, 10));
        due("18 all of the greatest", x.sum(0, 0, 0), 1000);
        due("18 none", x.sum(0, 0, 1), 0);
        due("18 all of worth 0", x.sum(0, 1, 0), 0);
        due("18 all are the other's", x.sum(1023, 0, 1), 1000);
    }

    private static void nobodyEnviesItself() {
        HouseSorted x = house(4, 2);
        for (int h = 0; h < 4; h++) {
            due("19 a and b are one", x.envies(0, h, h), BAD);
        }
    }

    private static void enviesAbove() {
        due("19 below", withWorths(row(6, 5), row(0, 0)).envies(numberOf("01", 2), 0, 1), 0);
        due("19 alike", withWorths(row(5, 5), row(0, 0)).envies(numberOf("01", 2), 0, 1), 0);
        due("19 above by 1", withWorths(row(5, 6), row(0, 0)).envies(numberOf("01", 2), 0, 1), 1);
        due("19 nothing but worths of 0", withWorths(row(0, 0), row(0, 0)).envies(numberOf("11", 2), 0, 1), 0);
        due("19 both get nothing", house(3, 2).envies(numberOf("22", 3), 0, 1), 0);
    }

    private static void enviesBarely() {
        int sharing = numberOf("0111", 2);
        due("19 left out: below", withWorths(row(10, 5, 9, 4), row(0, 0, 0, 0)).envies(sharing, 0, 1), 1);
        due("19 left out: alike", withWorths(row(10, 6, 9, 4), row(0, 0, 0, 0)).envies(sharing, 0, 1), 1);
        due("19 left out: above by 1", withWorths(row(10, 6, 9, 5), row(0, 0, 0, 0)).envies(sharing, 0, 1), 2);
        due("19 one of two greatest left out", withWorths(row(10, 9, 9, 2), row(0, 0, 0, 0)).envies(sharing, 0, 1), 2);
        due("19 by a's worths, not b's", withWorths(row(10, 6, 9, 4), row(0, 100, 1, 1)).envies(sharing, 0, 1), 1);
        due("19 the only thing left out", withWorths(row(1, 0), row(0, 0)).envies(numberOf("11", 2), 0, 1), 1);
    }

    private static void envyOfNoneAndOfAll() {
        due("20 no heirs, nothing shared", new HouseSorted().envy(0), 0);
        due("20 no heirs, nothing shared, no other", new HouseSorted().envy(1), BAD);
        due("20 no heirs, one shared", house(0, 1).envy(0), BAD);
        due("20 one heir", withWorths(row(9, 9)).envy(0), 0);
        HouseSorted x = withWorths(row(0, 1, 1, 1), row(1, 0, 1, 1), row(1, 1, 0, 1), row(1, 1, 1, 0));
        due("20 each envies each", x.envy(numberOf("0123", 4)), 12);
        due("20 all are content", x.envy(numberOf("1230", 4)), 0);
    }

    private static void envyCountsBarelyToo() {
        HouseSorted x = withWorths(row(5, 5, 5), row(5, 5, 5));
        due("19 barely", x.envies(numberOf("011", 2), 0, 1), 1);
        due("20 barely", x.envy(numberOf("011", 2)), 1);
        due("19 fully", x.envies(numberOf("111", 2), 0, 1), 2);
        due("20 fully", x.envy(numberOf("111", 2)), 1);
    }

    // ---- promise 21

    private static void fairestOfNoHeirs() {
        due("21 no heirs", new HouseSorted().fairest(), STATE);
        due("21 no heirs, things", house(0, 3).fairest(), STATE);
        due("21 no heirs, nine things", house(0, 9).fairest(), STATE);
    }

    private static void fairestOfEightAtMost() {
        for (int heirs = 1; heirs <= 4; heirs++) {
            due("21 nothing shared", house(heirs, 0).fairest(), 0);
            due("21 eight of worth 0", house(heirs, 8).fairest(), 0);
            due("21 nine", house(heirs, 9).fairest(), STATE);
            due("21 ten", house(heirs, 10).fairest(), STATE);
        }
        HouseSorted x = house(2, 9);
        due("21 nine", x.fairest(), STATE);
        x.gone();
        due("21 eight again", x.fairest(), 0);
        x.thing(1, 0, 0, 0, 0);
        x.thing(1, 0, 0, 0, 0);
        due("21 eight of ten", x.fairest(), 0);
        x.worth(1, 9, 1);
        due("21 nine of ten", x.fairest(), STATE);
    }

    private static void fairestByTheLeastSumFirst() {
        due("21 least sum before the sum of all", withWorths(row(100, 100), row(1, 1)).fairest(), numberOf("10", 2));
        due("21 one gets nothing in any", withWorths(row(9), row(5)).fairest(), numberOf("0", 2));
        due("21 more heirs than things", withWorths(row(5, 5), row(9, 0), row(0, 9)).fairest(), numberOf("12", 3));
    }

    private static void fairestByTheSumOfAllThen() {
        due("21 alike but for the sum", withWorths(row(5, 5, 1), row(5, 5, 2)).fairest(), numberOf("101", 2));
        due("21 least sum 0, the greatest sum", withWorths(row(3), row(4)).fairest(), numberOf("1", 2));
    }

    private static void fairestByTheLeastNumberThen() {
        due("21 two alike", withWorths(row(5, 5), row(5, 5)).fairest(), numberOf("10", 2));
        due("21 one for two", withWorths(row(5), row(5)).fairest(), numberOf("0", 2));
        due("21 eight for four", withWorths(same(1, 8), same(1, 8), same(1, 8), same(1, 8)).fairest(),
            numberOf("33221100", 4));
        due("21 eight of 100 for four", withWorths(same(100, 8), same(100, 8), same(100, 8), same(100, 8)).fairest(),
            numberOf("33221100", 4));
    }

    private static void fairestIsSoughtAnew() {
        HouseSorted x = withWorths(row(100, 100), row(100, 100));
        due("21 at first", x.fairest(), numberOf("10", 2));
        due("21 asked again", x.fairest(), numberOf("10", 2));
        x.worth(0, 1, 0);
        due("21 with less", x.fairest(), numberOf("01", 2));
        x.gone();
        due("21 with one thing", x.fairest(), numberOf("0", 2));
        x.worth(0, 0, 1);
        x.worth(1, 0, 2);
        due("21 with one thing of less", x.fairest(), numberOf("1", 2));
        x.gone();
        due("21 with none", x.fairest(), 0);
    }

    // ---- promises 22 and 23

    private static void bidsWithoutHeirs() {
        HouseSorted x = house(0, 1);
        x.thing(1, 0, 0, 0, 0);
        due("22 shared, no heirs", x.bid(0), STATE);
        due("22 not shared, no heirs", x.bid(1), STATE);
        due("22 no thing, no heirs", x.bid(2), BAD);
    }

    private static void bidsForWhatIsNotShared() {
        HouseSorted x = withHeirs(1);
        x.thing(1, 200, 200, 0, 0);
        x.thing(1, 1, 1, 0, 0);
        x.thing(1, 0, 0, 0, 0);
        x.thing(1, 0, 0, 0, PAPER_MARK);
        x.thing(1, 0, 0, 0, NAME_MARK);
        for (int t = 0; t < 4; t++) {
            due("22 not shared, way " + (t + 1), x.bid(t), NONE);
        }
        due("22 shared", x.bid(4), 0);
    }

    private static void bidsAtATie() {
        HouseSorted x = withWorths(row(5, 0, 4, 100), row(5, 0, 5, 100), row(5, 0, 5, 100), row(6, 0, 5, 100));
        due("22 one above", x.bid(0), 3);
        due("22 all 0", x.bid(1), 0);
        due("22 the least number of several", x.bid(2), 1);
        due("22 all 100", x.bid(3), 0);
    }

    private static void whatIsSettled() {
        HouseSorted x = house(1, 1);
        for (int what = 0; what <= 3; what++) {
            due("23 settled " + what, x.settled(0, what), 0);
        }
        dueRefused("23 settled", 0, 3, what -> x.settled(0, what), NOT_SETTLED);
        due("23 no heirs", new HouseSorted().settled(0, 0), NOT_SETTLED);
    }

    private static void claimsAreDividedDown() {
        due("23 6 for two", withWorths(row(3, 3), row(0, 0)).settled(0, 1), 3);
        due("23 7 for two", withWorths(row(3, 4), row(0, 0)).settled(0, 1), 3);
        due("23 8 for three", withWorths(row(8), row(0), row(0)).settled(0, 1), 2);
        due("23 9 for three", withWorths(row(9), row(0), row(0)).settled(0, 1), 3);
        due("23 3 for four", withWorths(row(3), row(0), row(0), row(0)).settled(0, 1), 0);
        due("23 all for one", withWorths(row(9, 8)).settled(0, 1), 17);
    }

    private static void paymentsMayBeBelowZero() {
        HouseSorted x = withWorths(row(9), row(8));
        due("23 pays", x.settled(0, 2), 5);
        due("23 gets", x.settled(1, 2), -4);
        due("23 pays in the end", x.settled(0, 3), 5);
        due("23 gets in the end", x.settled(1, 3), -4);
        x = withWorths(row(2), row(2));
        due("23 gets 1: no BAD", x.settled(1, 2), -1);
        due("23 gets 1: no BAD", x.settled(1, 3), -1);
    }

    private static void whatIsOverIsDividedDown() {
        // Payments 5, -4: 1 is over.
        due("23 1 over for two", withWorths(row(9), row(8)).settled(0, 3), 5);
        // Payments 5, -3: 2 are over.
        due("23 2 over for two", withWorths(row(9), row(7)).settled(0, 3), 4);
        due("23 2 over for two", withWorths(row(9), row(7)).settled(1, 3), -4);
        // Payments 2, 2: 4 are over.
        due("23 4 over for two", withWorths(row(4, 0), row(0, 4)).settled(0, 3), 0);
        // Payments 1, -1.
        due("23 nothing over", withWorths(row(2), row(2)).settled(0, 3), 1);
        due("23 nothing at all", house(4, 10).settled(3, 3), 0);
    }

    private static void theFirstSharedGoesToTheLastHeir() {
        HouseSorted x = withWorths(row(1, 9), row(2, 0), row(3, 0), row(4, 0));
        due("23 the last gets the first", x.settled(3, 0), 4);
        due("23 the first gets the last", x.settled(0, 0), 9);
        due("23 another gets none", x.settled(1, 0), 0);
        x.turns(0);
        due("23 after other sharings", x.settled(3, 0), 4);
    }

    private static void theGreatestIsSettled() {
        HouseSorted x = withWorths(same(100, 10), same(100, 10), same(100, 10), same(100, 10));
        int[] first = {1000, 250, 750, 750};
        int[] last = {0, 250, -250, -250};
        for (int what = 0; what <= 3; what++) {
            due("23 the first, " + what, x.settled(0, what), first[what]);
            due("23 the last, " + what, x.settled(3, what), last[what]);
        }
        x = withWorths(same(100, 10), same(0, 10), same(0, 10), same(0, 10));
        due("23 750 over for four", x.settled(0, 3), 563);
        due("23 750 over for four", x.settled(3, 3), -187);
    }

    // ---- promises 24 and 25

    private static void loadsOfNothing() {
        for (int way = 0; way <= 4; way++) {
            due("24 nothing goes way " + way, new HouseSorted().loads(way), 0);
        }
        dueRefused("24 loads", 0, 4, way -> new HouseSorted().loads(way), BAD);
    }

    private static int loadsOf(String laws, int... weights) {
        HouseSorted x = withLaws(laws);
        for (int weight : weights) {
            x.thing(weight, 0, 0, 0, 0);
        }
        return x.loads(TIP);
    }

    private static void vansFilledToTheBrim() {
        due("24 just full", loadsOf("van 60;", 30, 30), 1);
        due("24 one above", loadsOf("van 60;", 30, 31), 2);
        due("24 usual van, just full", loadsOf("", 50, 50), 1);
        due("24 usual van, one above", loadsOf("", 50, 50, 1), 2);
        due("24 van 200", loadsOf("van 200;", same(50, 10)), 3);
        due("24 van 199", loadsOf("van 199;", same(50, 10)), 4);
        due("24 van 50", loadsOf("van 50;", same(50, 10)), 10);
        due("24 van 1", loadsOf("van 1;", same(1, 10)), 10);
        due("24 van 10", loadsOf("van 10;", same(1, 10)), 1);
        due("24 van 9", loadsOf("van 9;", same(1, 10)), 2);
        due("24 only in another order", loadsOf("van 10;", 4, 4, 4, 6, 6, 6), 3);
    }

    private static void thingsAboveTheVan() {
        due("24 as heavy as van", loadsOf("van 30;", 30), 1);
        due("24 above van", loadsOf("van 30;", 31), NONE);
        due("24 the last is above", loadsOf("van 30;", 1, 2, 31), NONE);
        HouseSorted x = withLaws("van 30;");
        x.thing(30, 0, 0, 0, 0);
        x.thing(31, 0, 0, 0, NAME_MARK);
        due("24 a heavy one of another way", x.loads(TIP), 1);
        due("25 a heavy one of another way", x.load(0), 0);
        due("24 the heavy one's way", x.loads(KIN), NONE);
        due("25 the heavy one", x.load(1), NONE);
        x.thing(1, 0, 0, 0, NAME_MARK);
        due("25 a light one beside it", x.load(2), NONE);
        x.gone();
        x.gone();
        due("24 it is gone", x.loads(KIN), 0);
    }

    private static void loadsOfEachWay() {
        HouseSorted x = withHeirs(1);
        x.thing(50, 0, 0, 0, NAME_MARK);
        x.thing(50, 200, 200, 0, 0);
        x.thing(50, 1, 1, 0, 0);
        x.thing(50, 0, 0, 0, 0);
        x.thing(50, 0, 0, 0, PAPER_MARK);
        for (int way = 0; way <= 4; way++) {
            due("24 way " + way, x.loads(way), 1);
            due("25 way " + way, x.load(way), 0);
        }
    }

    private static void dueLoad(int van, int[] weights, String want) {
        HouseSorted x = withLaws("van " + van + ";");
        for (int weight : weights) {
            x.thing(weight, 0, 0, 0, 0);
        }
        for (int t = 0; t < weights.length; t++) {
            due("25 load of " + t + " by van " + van, x.load(t), want.charAt(t) - '0');
        }
    }

    private static void loadsWithTheLeastNumbers() {
        dueLoad(10, row(5), "0");
        dueLoad(10, row(5, 5), "00");
        dueLoad(10, row(5, 6), "01");
        dueLoad(10, row(6, 5, 5), "011");
        dueLoad(10, row(5, 6, 5), "010");
        dueLoad(10, row(5, 5, 6), "001");
        dueLoad(10, row(4, 4, 6, 6), "0101");
        dueLoad(10, row(1, 1, 9, 9), "0101");
        dueLoad(10, row(1, 1, 8, 10), "0001");
        dueLoad(1, same(1, 10), "0123456789");
        dueLoad(10, same(1, 10), "0000000000");
        dueLoad(9, same(1, 10), "0000000001");
        dueLoad(20, same(10, 10), "0011223344");
    }

    // ---- promises 26 to 28

    private static void lanes() {
        dueTaken("26 lane", 0, 2, lane -> new HouseSorted().sheet(0, lane, 1), 1);
        HouseSorted x = withHeirs(1);
        x.sheet(0, 0, 1);
        dueRefused("28 lane", 0, 2, lane -> x.worths(0, 0, lane, 0), BAD);
    }

    private static void sizesOfSheets() {
        for (int lane = 0; lane <= 2; lane++) {
            for (int n = 0; n <= 60; n++) {
                HouseSorted x = new HouseSorted();
                due("26 sheet of " + n, x.sheet(3, lane, n), 1);
                due("27 before the first of " + n, x.lay(3, -1, 0), INDEX_FAULT);
                due("27 the first of " + n, x.lay(3, 0, 0), n == 0 ? INDEX_FAULT : 1);
                due("27 the last of " + n, x.lay(3, n - 1, 0), n == 0 ? INDEX_FAULT : 1);
                due("27 behind the last of " + n, x.lay(3, n, 0), INDEX_FAULT);
            }
        }
    }

    private static void sizesThatAreRefused() {
        for (int lane = 0; lane <= 2; lane++) {
            HouseSorted x = new HouseSorted();
            due("26 61 cells", x.sheet(0, lane, 61), BAD);
            due("26 most cells", x.sheet(0, lane, MOST_INT), BAD);
            due("26 -1 cells", x.sheet(0, lane, -1), SIZE_FAULT);
            due("26 least cells", x.sheet(0, lane, LEAST_INT), SIZE_FAULT);
            due("27 it is nothing still", x.lay(0, 0, 0), NULL_FAULT);
        }
    }

    private static HouseSorted withCells(int lane, int... cells) {
        HouseSorted x = withHeirs(2);
        x.sheet(0, lane, cells.length);
        for (int i = 0; i < cells.length; i++) {
            x.lay(0, i, cells[i]);
        }
        return x;
    }

    private static void refusedSheetsStay() {
        HouseSorted x = addThings(withCells(1, 7, 8, 9), 3, 1, 0);
        due("26 below 0", x.sheet(0, 0, -1), SIZE_FAULT);
        due("26 above 60", x.sheet(0, 0, 61), BAD);
        due("26 lane 3", x.sheet(0, 3, 1), BAD);
        due("28 its cells and its lane stay", x.worths(0, 0, 1, 0), 3);
        due("9 the last cell", x.worth(0, 2, 0), 9);
    }

    private static void newSheetsAreOfZeros() {
        for (int lane = 0; lane <= 2; lane++) {
            HouseSorted x = addThings(withCells(lane, same(100, 60)), 10, 1, 0);
            due("28 before", x.worths(0, 0, lane, 50), 10);
            x.sheet(0, lane, 60);
            for (int f = 0; f <= 50; f += 10) {
                x.worths(0, 0, lane, f);
                for (int t = 0; t < 10; t++) {
                    due("26 cell " + (f + t), x.worth(0, t, 1), 0);
                }
            }
            x.sheet(0, lane, 1);
            due("26 smaller now", x.lay(0, 1, 0), INDEX_FAULT);
            x.sheet(0, (lane + 1) % 3, 60);
            due("26 of another lane now", x.worths(0, 0, lane, 0), CAST_FAULT);
        }
    }

    private static void sheetsAreFour() {
        HouseSorted x = addThings(withHeirs(1), 1, 1, 0);
        for (int k = 0; k <= 3; k++) {
            due("27 nothing yet", x.lay(k, 0, 0), NULL_FAULT);
            x.sheet(k, k % 3, k + 1);
            x.lay(k, k, 10 + k);
        }
        for (int k = 0; k <= 3; k++) {
            due("27 behind the last of " + k, x.lay(k, k + 1, 0), INDEX_FAULT);
            x.worths(0, k, k % 3, k);
            due("9 the last of " + k, x.worth(0, 0, 0), 10 + k);
        }
    }

    private static void cellsOfASheet() {
        for (int i : new int[] {-1, 5, 59, 60, LEAST_INT, MOST_INT}) {
            HouseSorted x = withCells(2, 1, 2, 3, 4, 5);
            due("27 cell " + i + " of five", x.lay(0, i, 0), INDEX_FAULT);
            due("27 cell " + i + " of nothing", x.lay(1, i, 0), NULL_FAULT);
            due("27 cell " + i + " of no sheet", x.lay(4, i, 0), BAD);
        }
        due("27 cell 0 of five", withCells(2, same(0, 5)).lay(0, 0, 0), 1);
        due("27 cell 4 of five", withCells(2, same(0, 5)).lay(0, 4, 0), 1);
    }

    /** What a CELL holds after v was laid: a WORTH, or BAD if it is none. */
    private static int heldBy(int lane, int v) {
        HouseSorted x = addThings(withCells(lane, v), 1, 1, 0);
        due("27 laid " + v, x.lay(0, 0, v), 1);
        return x.worths(0, 0, lane, 0) == -20 ? BAD : x.worth(0, 0, 0);
    }

    private static void lowestBitsOfBytes() {
        int[][] held = {{0, 0}, {100, 100}, {101, BAD}, {127, BAD}, {128, BAD}, {255, BAD}, {256, 0}, {257, 1},
            {356, 100}, {357, BAD}, {-1, BAD}, {-128, BAD}, {-156, 100}, {-155, BAD}, {-256, 0}, {65536, 0},
            {MOST_INT, BAD}, {LEAST_INT, 0}, {LEAST_INT + 100, 100}};
        for (int[] h : held) {
            due("27 a byte of " + h[0], heldBy(0, h[0]), h[1]);
        }
    }

    private static void lowestBitsOfShorts() {
        int[][] held = {{0, 0}, {100, 100}, {101, BAD}, {256, BAD}, {32767, BAD}, {32768, BAD}, {65535, BAD},
            {65536, 0}, {65636, 100}, {65637, BAD}, {-1, BAD}, {-32768, BAD}, {-65436, 100}, {-65536, 0},
            {MOST_INT, BAD}, {LEAST_INT, 0}, {LEAST_INT + 100, 100}};
        for (int[] h : held) {
            due("27 a short of " + h[0], heldBy(1, h[0]), h[1]);
        }
    }

    private static void intsAreWhole() {
        int[][] held = {{0, 0}, {100, 100}, {101, BAD}, {256, BAD}, {65536, BAD}, {65636, BAD}, {-1, BAD},
            {MOST_INT, BAD}, {LEAST_INT, BAD}, {LEAST_INT + 100, BAD}};
        for (int[] h : held) {
            due("27 an int of " + h[0], heldBy(2, h[0]), h[1]);
        }
    }

    private static void sheetsTakenAsOfALane() {
        for (int lane = 0; lane <= 2; lane++) {
            for (int as = 0; as <= 2; as++) {
                HouseSorted x = addThings(withCells(lane, 0), 1, 1, 0);
                due("28 lane " + lane + " as of " + as, x.worths(0, 0, as, 0), lane == as ? 0 : CAST_FAULT);
                due("28 before the index", x.worths(0, 0, as, -1), lane == as ? INDEX_FAULT : CAST_FAULT);
                due("28 nothing as of " + as, x.worths(0, 1, as, -1), NULL_FAULT);
            }
        }
    }

    private static void worthsFromTheFirstCellToTheLast() {
        for (int things = 1; things <= 10; things++) {
            HouseSorted x = addThings(withCells(0, same(1, 12)), things, 1, 0);
            due("28 from the first cell on", x.worths(0, 0, 0, 0), things);
            due("28 up to the last cell", x.worths(1, 0, 0, 12 - things), things);
            for (int f : new int[] {-1, -things, 13 - things, 12, 60, MOST_INT, MOST_INT - 3, LEAST_INT}) {
                due("28 from cell " + f + " for " + things, x.worths(0, 0, 0, f), INDEX_FAULT);
            }
        }
        HouseSorted x = addThings(withCells(0, same(1, 60)), 10, 1, 0);
        due("28 up to cell 59", x.worths(0, 0, 0, 50), 10);
        due("28 up to cell 60", x.worths(1, 0, 0, 51), INDEX_FAULT);
        x.sheet(0, 0, 0);
        due("28 of no cells", x.worths(0, 0, 0, 0), INDEX_FAULT);
    }

    private static void worthsThatAreNone() {
        for (int bad : new int[] {101, -1, 127, -128}) {
            for (int t = 0; t < 10; t++) {
                int[] cells = same(100, 10);
                cells[t] = bad;
                HouseSorted x = addThings(withCells(0, cells), 10, 1, 0);
                due("28 " + bad + " for thing " + t, x.worths(0, 0, 0, 0), -20 - t);
                for (int other = 0; other < 10; other++) {
                    due("28 none changed", x.worth(0, other, 0), 0);
                }
            }
        }
        HouseSorted x = addThings(withCells(0, 0, 100, 0), 3, 1, 0);
        due("28 0 and 100 are worths", x.worths(0, 0, 0, 0), 1);
    }

    private static void theFirstFaultOfWorths() {
        HouseSorted x = addThings(withCells(2, 5, 6, 101), 3, 1, 0);
        due("28 two: the first no worth", addThings(withCells(2, 5, 101, -1), 3, 1, 0).worths(0, 0, 2, 0), -21);
        due("28 no worth before the end", x.worths(0, 0, 2, 1), -21);
        due("28 no worth at once", x.worths(0, 0, 2, 2), -20);
        due("28 the end at once", x.worths(0, 0, 2, 3), INDEX_FAULT);
        x.lay(0, 2, 7);
        due("28 the end behind two worths", x.worths(0, 0, 2, 1), INDEX_FAULT);
        for (int t = 0; t < 3; t++) {
            due("28 none changed", x.worth(0, t, 0), 0);
        }
    }

    private static void worthsOfNoThings() {
        HouseSorted x = withCells(1, 101);
        due("28 no things", x.worths(0, 0, 1, 0), 0);
        due("28 no things: no cell is read", x.worths(0, 0, 1, -1), 0);
        due("28 no things: no cell is read", x.worths(0, 0, 1, MOST_INT), 0);
        due("28 no things: another lane", x.worths(0, 0, 2, 0), CAST_FAULT);
        due("28 no things: nothing", x.worths(0, 1, 2, 0), NULL_FAULT);
        due("28 no things: no heir", x.worths(2, 0, 1, 0), BAD);
    }

    private static void howManyBecameOthers() {
        for (int others = 0; others <= 10; others++) {
            int[] cells = new int[10];
            for (int i = 0; i < others; i++) {
                cells[9 - i] = i + 1;
            }
            HouseSorted x = addThings(withCells(0, cells), 10, 1, 0);
            due("28 " + others + " became others", x.worths(1, 0, 0, 0), others);
            due("28 none became others", x.worths(1, 0, 0, 0), 0);
            due("29 so many are shared", x.count(3), others);
            due("9 not the other heir's", x.worth(0, 9, 0), 0);
        }
    }

    // ---- promise 29

    private static void counts() {
        HouseSorted x = withLaws(SEVEN);
        addThings(addHeirs(x, 4), 10, 1, NAME_MARK);
        int[] want = {4, 10, 7, 10};
        for (int what = 0; what <= 3; what++) {
            due("29 full: " + what, x.count(what), want[what]);
            due("29 empty: " + what, new HouseSorted().count(what), 0);
        }
        dueRefused("29 count", 0, 3, x::count, BAD);
    }

    private static void sharedAreThoseOfKin() {
        HouseSorted x = withLaws("gun kin;fur kin;");
        x.heir();
        int[] marks = {0, PAPER_MARK, FUR_MARK, GUN_MARK, NAME_MARK};
        int[] want = {0, 0, 1, 2, 3};
        for (int n = 0; n < 5; n++) {
            x.thing(1, 0, 0, 0, marks[n]);
            due("29 shared up to marks " + marks[n], x.count(3), want[n]);
        }
        x.worth(0, 0, 1);
        due("29 one that is wanted", x.count(3), 4);
        x.worth(0, 1, 1);
        due("29 a paper that is kept", x.count(3), 4);
    }

    private static void terms() {
        noSuchHeir();
        lastHeir();
        noSuchThing();
        lastThing();
        noSuchSheet();
        firstThatFits();
        constants();
        newObjectIsEmpty();
        newObjectHasNothingOfAnother();
        lastOfManyCalls();
    }

    private static void tapes() {
        tapeTakesWhatFits();
        feedTakesAnyNumber();
        highestByteComesFirst();
        endKeepsWhatThereIs();
        bytesComeBehindWhatIsKept();
    }

    private static void laws() {
        emptyTexts();
        fullTexts();
        placesFromZeroOn();
        everyByteWhereALawMayStand();
        everyByteBehindAName();
        everyByteBehindANumber();
        tokensAreAsLongAsMayBe();
        numbersOfOneToFourFigures();
        tooLongNumberWhereNoneMayStand();
        namesALetterShortOrLong();
        lawsTakeTheirBounds();
        lawsRefuseWhatIsOutside();
        furAndGunTakeFourWays();
        namesWhereNumbersAreDue();
        waysAreNoLaws();
        noLawAndAllLaws();
        whatIsNotToldIsUsual();
        eachLawOnceAtMost();
        lawsMayBeToldAgainByAnotherText();
        theFirstFaultIsMet();
        theEndOfEachBeginning();
        afterAFaultLawsStay();
        theTapeIsEmptyThen();
        faultOfTheLatestLaws();
        lawNumbers();
    }

    private static void houses() {
        fourHeirs();
        tenThings();
        boundsOfWeight();
        boundsOfLow();
        boundsOfHigh();
        lowUpToHigh();
        boundsOfAge();
        boundsOfMarks();
        refusedThingsDoNotCome();
        boundsOfWorth();
        worthsAreZeroAtFirst();
        noneGoesOfNone();
        allGo();
        whatGoesLeavesNothing();
    }

    private static void ways() {
        looksWithinWhatTheyWere();
        looksNotWithin();
        looksAtTheWidestAndTheNarrowest();
        looksGoByTheLatest();
        whatIsTold();
        wayOfAPaperByItsAge();
        wayByLowAndSale();
        wayByLowAndGift();
        wayByWorths();
        waysOfGunsAndFurs();
        wayIsTheFirstThatFits();
        waysOfNoThingsAndOfAll();
        numbersOfWays();
        asksOnlyIfLowIsBelowSale();
        asksOnlyIfHighIsAtLeastSale();
        asksNothingBelowZero();
        asksOfNoneThatAMarkSends();
        asksOfOneThatAHeirWants();
    }

    private static void sharings() {
        rules();
        noHeirsTakeTurns();
        turnsOfNothing();
        turnsGoRoundAndBack();
        theLeastNumberOfSeveralIsTaken();
        boundsOfALie();
        liesAtATie();
        liesLeaveWaysAsTheyAre();
        gainsAtLeastZero();
        gainsByTheEdges();
        gainsOfAFullHouse();
        numbersOfSharings();
        sharingsCountOnlyWhatIsShared();
        leastAndGreatestSum();
        nobodyEnviesItself();
        enviesAbove();
        enviesBarely();
        envyOfNoneAndOfAll();
        envyCountsBarelyToo();
        fairestOfNoHeirs();
        fairestOfEightAtMost();
        fairestByTheLeastSumFirst();
        fairestByTheSumOfAllThen();
        fairestByTheLeastNumberThen();
        fairestIsSoughtAnew();
    }

    private static void bidsAndLoads() {
        bidsWithoutHeirs();
        bidsForWhatIsNotShared();
        bidsAtATie();
        whatIsSettled();
        claimsAreDividedDown();
        paymentsMayBeBelowZero();
        whatIsOverIsDividedDown();
        theFirstSharedGoesToTheLastHeir();
        theGreatestIsSettled();
        loadsOfNothing();
        vansFilledToTheBrim();
        thingsAboveTheVan();
        loadsOfEachWay();
        loadsWithTheLeastNumbers();
    }

    private static void sheetsAndCounts() {
        lanes();
        sizesOfSheets();
        sizesThatAreRefused();
        refusedSheetsStay();
        newSheetsAreOfZeros();
        sheetsAreFour();
        cellsOfASheet();
        lowestBitsOfBytes();
        lowestBitsOfShorts();
        intsAreWhole();
        sheetsTakenAsOfALane();
        worthsFromTheFirstCellToTheLast();
        worthsThatAreNone();
        theFirstFaultOfWorths();
        worthsOfNoThings();
        howManyBecameOthers();
        counts();
        sharedAreThoseOfKin();
    }

    public static void main(String[] args) {
        terms();
        tapes();
        laws();
        houses();
        ways();
        sharings();
        bidsAndLoads();
        sheetsAndCounts();
        System.out.println(checks + " answers at boundaries looked at, " + wrong + " not as due");
        if (wrong != 0) {
            System.exit(1);
        }
    }
}
