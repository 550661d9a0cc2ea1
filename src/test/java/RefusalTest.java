import java.util.ArrayList;
import java.util.List;
import java.util.function.Supplier;
import java.util.function.ToIntFunction;

/**
 * What is refused changes nothing (but THE TAPE, by laws()), and neither does what only asks: each such call is
 * made in an object, and all that can be seen of it then is compared with another that was made alike.
 */
public final class RefusalTest {
    private static final int BAD = -1, STATE = -2, FULL = -3, NONE = -4, NOT_SETTLED = -100000;
    private static final int NULL_FAULT = -11, INDEX_FAULT = -12, CAST_FAULT = -13, SIZE_FAULT = -14;
    private static final int LEAST_INT = Integer.MIN_VALUE, MOST_INT = Integer.MAX_VALUE;
    private static final long EIGHT_BLANKS = 0x2020202020202020L;
    private static final int MOST_CALLS = 512;
    private static int checks = 0;
    private static int wrong = 0;

    private static void due(String call, long got, long want) {
        checks++;
        if (got != want) {
            wrong++;
            System.out.println(call + " answered " + got + ", due is " + want);
        }
    }

    // ---- objects

    private static void feedText(HouseSorted x, String text) {
        String padded = text + " ".repeat((8 - text.length() % 8) % 8);
        for (int i = 0; i < padded.length(); i += 8) {
            long v = 0;
            for (int j = i; j < i + 8; j++) {
                v = v << 8 | padded.charAt(j) & 255;
            }
            x.feed(v);
        }
        x.end(text.length());
    }

    private static int tell(HouseSorted x, String text) {
        feedText(x, text);
        return x.laws();
    }

    private static HouseSorted empty() {
        return new HouseSorted();
    }

    /** Some of all, THINGS of each WAY, one too heavy; the latest laws() had a FAULT; the text in THE TAPE has none. */
    private static HouseSorted ordinary() {
        HouseSorted x = new HouseSorted();
        tell(x, "keep 20; sale 150; van 40; fur kin; gun gift;");
        tell(x, "look 1001;");
        feedText(x, "look 7; keep 3;");
        int[][] things = {{40, 10, 300, 5, 1}, {7, 160, 400, 0, 0}, {9, 5, 600, 30, 1}, {21, 0, 9, 0, 8},
            {22, 0, 90, 0, 2}, {41, 60, 70, 0, 4}, {3, 0, 0, 0, 0}, {5, 40, 500, 2, 0}};
        for (int h = 0; h < 3; h++) {
            x.heir();
        }
        for (int[] t : things) {
            x.thing(t[0], t[1], t[2], t[3], t[4]);
        }
        int[][] worths = {{0, 3, 4}, {0, 4, 9}, {1, 3, 8}, {1, 7, 30}, {2, 4, 9}, {2, 7, 31}};
        for (int[] w : worths) {
            x.worth(w[0], w[1], w[2]);
        }
        fillSheet(x, 0, 0, 5);
        fillSheet(x, 1, 1, 12);
        fillSheet(x, 2, 2, 12);
        return x;
    }

    /** As much as may be of all: four HEIRS, ten THINGS, seven laws, 160 bytes, sheets of 60. */
    private static HouseSorted full() {
        HouseSorted x = new HouseSorted();
        tell(x, "keep 99;sale 1000;gift 100;van 200;look 0;fur kin;gun kin;");
        feedText(x, "van 20;" + " ".repeat(145) + "keep 77;");
        for (int h = 0; h < 4; h++) {
            x.heir();
        }
        for (int t = 0; t < 10; t++) {
            x.thing(50 - t, 10 * t, 1000 - t, 99 - t, t % 5 * 2);
            x.worth(t % 4, t, 100 - t);
            x.worth((t + 1) % 4, t, 90 - 2 * t);
        }
        for (int k = 0; k < 4; k++) {
            x.sheet(k, k % 3, 60);
            for (int i = 0; i < 10; i++) {
                x.lay(k, i, 10 * k + i);
                x.lay(k, 50 + i, 50 + 10 * k + i);
            }
        }
        return x;
    }

    private static void fillSheet(HouseSorted x, int k, int lane, int n) {
        x.sheet(k, lane, n);
        for (int i = 0; i < n; i++) {
            x.lay(k, i, 20 * k + i + 1);
        }
    }

    // ---- all that can be seen of an object

    private static List<Integer> allOf(HouseSorted x) {
        List<Integer> seen = new ArrayList<>();
        addLaws(seen, x);
        int heirs = x.count(0);
        int things = x.count(1);
        addThings(seen, x, things);
        addSharings(seen, x, heirs);
        for (int h = 0; h < heirs; h++) {
            for (int t = 0; t < things; t++) {
                seen.add(x.worth(h, t, 0));
            }
        }
        addTape(seen, x);
        addSheets(seen, x);
        return seen;
    }

    private static void addLaws(List<Integer> seen, HouseSorted x) {
        seen.add(x.fault());
        for (int k = 0; k < 7; k++) {
            seen.add(x.law(k));
        }
        for (int what = 0; what < 4; what++) {
            seen.add(x.count(what));
        }
    }

    private static void addThings(List<Integer> seen, HouseSorted x, int things) {
        for (int t = 0; t < things; t++) {
            for (int what = 0; what < 6; what++) {
                seen.add(x.told(t, what));
            }
            seen.add(x.load(t));
        }
        for (int way = 0; way < 5; way++) {
            seen.add(x.loads(way));
        }
    }

    private static void addSharings(List<Integer> seen, HouseSorted x, int heirs) {
        seen.add(x.turns(0));
        seen.add(x.turns(1));
        seen.add(x.fairest());
        seen.add(x.envy(1));
        for (int h = 0; h < heirs; h++) {
            seen.add(x.settled(h, 3));
        }
    }

    /** How many bytes it has (it is FULL above 152), and what they tell. */
    private static void addTape(List<Integer> seen, HouseSorted x) {
        int length = x.feed(EIGHT_BLANKS);
        seen.add(length);
        if (length >= 0) {
            seen.add(x.end(length - 8));
        }
        for (int n = 160; n > 152 && length < 0; n--) {
            length = x.end(n);
            seen.add(length);
        }
        seen.add(x.laws());
        addLaws(seen, x);
    }

    private static void addSheets(List<Integer> seen, HouseSorted x) {
        seen.add(x.heir());
        while (x.count(1) > 3) {
            seen.add(x.gone());
        }
        seen.add(x.thing(1, 0, 0, 0, 0));
        int things = x.count(1);
        for (int k = 0; k < 4; k++) {
            for (int lane = 0; lane < 3; lane++) {
                for (int f : new int[] {0, 1, 4, 8, 56}) {
                    int changed = x.worths(0, k, lane, f);
                    seen.add(changed);
                    for (int t = 0; t < things && changed > 0; t++) {
                        seen.add(x.worth(0, t, 0));
                    }
                }
            }
            for (int i : new int[] {0, 4, 5, 11, 12, 59, 60}) {
                seen.add(x.lay(k, i, 0));
            }
        }
    }

    private static void dueUnchanged(String call, Supplier<HouseSorted> made, ToIntFunction<HouseSorted> toCall,
            int want) {
        HouseSorted x = made.get();
        due(call, toCall.applyAsInt(x), want);
        due(call + " once more", toCall.applyAsInt(x), want);
        List<Integer> got = allOf(x);
        List<Integer> same = allOf(made.get());
        checks++;
        if (!got.equals(same)) {
            wrong++;
            System.out.println(call + " changed something: " + got + ", due is " + same);
        }
    }

    private static void refusedInAll(String call, ToIntFunction<HouseSorted> toCall, int want) {
        dueUnchanged(call + ", empty", RefusalTest::empty, toCall, want);
        dueUnchanged(call + ", ordinary", RefusalTest::ordinary, toCall, want);
        dueUnchanged(call + ", full", RefusalTest::full, toCall, want);
    }

    private static void ordinaryDue(String call, ToIntFunction<HouseSorted> toCall, int want) {
        dueUnchanged(call + ", ordinary", RefusalTest::ordinary, toCall, want);
    }

    private static void fullDue(String call, ToIntFunction<HouseSorted> toCall, int want) {
        dueUnchanged(call + ", full", RefusalTest::full, toCall, want);
    }

    private static void emptyDue(String call, ToIntFunction<HouseSorted> toCall, int want) {
        dueUnchanged(call + ", empty", RefusalTest::empty, toCall, want);
    }

    // ---- the tests see what they should

    private static void differentObjectsAreSeen() {
        List<ToIntFunction<HouseSorted>> changes = List.of(x -> x.feed(EIGHT_BLANKS), x -> x.end(14), x -> x.end(0),
            HouseSorted::laws, HouseSorted::heir, x -> x.thing(1, 0, 0, 0, 0), x -> x.worth(1, 6, 1),
            HouseSorted::gone, x -> x.look(0, 11, 300), x -> x.look(0, 10, 299), x -> x.sheet(3, 0, 0),
            x -> x.sheet(0, 0, 5), x -> x.sheet(1, 2, 12), x -> x.lay(1, 11, 0), x -> x.lay(0, 4, 6),
            x -> x.worths(0, 2, 2, 0));
        for (int n = 0; n < changes.size(); n++) {
            HouseSorted x = ordinary();
            changes.get(n).applyAsInt(x);
            due("change " + n + " is seen", allOf(x).equals(allOf(ordinary())) ? 0 : 1, 1);
        }
        // An object is used for so many calls at most: those of full() and the refused ones are counted here.
        int before = 10 + 21 + 4 + 30 + 84 + 2;
        due("not too many calls", allOf(full()).size() + before <= MOST_CALLS ? 1 : 0, 1);
    }

    // ---- refused

    private static void tape() {
        fullDue("2 feed", x -> x.feed(0), FULL);
        fullDue("2 feed", x -> x.feed(-1), FULL);
        for (int n : new int[] {-1, 161, LEAST_INT, MOST_INT}) {
            refusedInAll("3 end(" + n + ")", x -> x.end(n), BAD);
        }
        emptyDue("3 end(1)", x -> x.end(1), BAD);
        ordinaryDue("3 end(16)", x -> x.end(16), BAD);
        fullDue("3 end(160)", x -> x.end(160), 160);
        for (int k : new int[] {-1, 7, LEAST_INT, MOST_INT}) {
            refusedInAll("6 law(" + k + ")", x -> x.law(k), BAD);
        }
    }

    /** Of a text with a FAULT only THE TAPE, empty then, and the FAULT are others. */
    private static void lawsWithAFault() {
        String[] texts = {"!", "keep 5; van", "keep 5; van 0;", "keep 5; van 9; keep 6;", "keep 5; van 9; gun tip"};
        int[] faults = {1, 2, 3, 4, 2};
        int[] places = {0, 11, 12, 15, 22};
        for (int n = 0; n < texts.length; n++) {
            dueFault(RefusalTest::empty, texts[n], places[n], faults[n]);
            dueFault(RefusalTest::ordinary, texts[n], places[n], faults[n]);
            dueFault(RefusalTest::full, texts[n], places[n], faults[n]);
        }
    }

    private static void dueFault(Supplier<HouseSorted> made, String text, int place, int fault) {
        HouseSorted x = made.get();
        x.end(0);
        due("4 laws of '" + text + "'", tell(x, text), -10 - place);
        HouseSorted y = made.get();
        y.end(0);
        List<Integer> got = allOf(x);
        List<Integer> same = allOf(y);
        due("5 fault of '" + text + "'", got.get(0), fault);
        same.set(0, fault);
        due("4 nothing else changed by '" + text + "'", got.equals(same) ? 1 : 0, 1);
    }

    private static void heirsAndThings() {
        fullDue("7 heir", HouseSorted::heir, FULL);
        fullDue("8 thing", x -> x.thing(1, 2, 3, 4, 5), FULL);
        int[][] refused = {{0, 2, 3, 4, 5}, {51, 2, 3, 4, 5}, {1, -1, 3, 4, 5}, {1, 4, 3, 4, 5}, {1, 2, 1001, 4, 5},
            {1, 2, 3, -1, 5}, {1, 2, 3, 100, 5}, {1, 2, 3, 4, -1}, {1, 2, 3, 4, 16}};
        for (int[] r : refused) {
            refusedInAll("8 thing", x -> x.thing(r[0], r[1], r[2], r[3], r[4]), BAD);
        }
        emptyDue("10 gone", HouseSorted::gone, NONE);
    }

    private static void worthsAndLooks() {
        refusedInAll("9 worth of heir -1", x -> x.worth(-1, 0, 50), BAD);
        refusedInAll("9 worth of heir 4", x -> x.worth(4, 0, 50), BAD);
        refusedInAll("9 worth of thing -1", x -> x.worth(0, -1, 50), BAD);
        refusedInAll("9 worth of thing 10", x -> x.worth(0, 10, 50), BAD);
        refusedInAll("9 worth -1", x -> x.worth(0, 0, -1), BAD);
        refusedInAll("9 worth 101", x -> x.worth(0, 0, 101), BAD);
        ordinaryDue("9 worth of heir 3", x -> x.worth(3, 0, 50), BAD);
        ordinaryDue("9 worth of thing 8", x -> x.worth(0, 8, 50), BAD);
        refusedInAll("11 look at thing -1", x -> x.look(-1, 0, 0), BAD);
        refusedInAll("11 look at thing 10", x -> x.look(10, 0, 0), BAD);
        ordinaryDue("11 look below", x -> x.look(0, 9, 300), BAD);
        ordinaryDue("11 look above", x -> x.look(0, 10, 301), BAD);
        ordinaryDue("11 look crossed", x -> x.look(0, 200, 199), BAD);
        ordinaryDue("11 look as it was", x -> x.look(0, 10, 300), 1);
    }

    private static void sheets() {
        int[][] refused = {{-1, 0, 5}, {4, 0, 5}, {0, -1, 5}, {0, 3, 5}, {0, 0, 61}, {0, 0, MOST_INT}};
        for (int[] r : refused) {
            refusedInAll("26 sheet", x -> x.sheet(r[0], r[1], r[2]), BAD);
        }
        refusedInAll("26 sheet of -1", x -> x.sheet(0, 1, -1), SIZE_FAULT);
        refusedInAll("26 sheet of least", x -> x.sheet(3, 2, LEAST_INT), SIZE_FAULT);
        refusedInAll("27 lay on -1", x -> x.lay(-1, 0, 9), BAD);
        refusedInAll("27 lay on 4", x -> x.lay(4, 0, 9), BAD);
        emptyDue("27 lay on nothing", x -> x.lay(0, 0, 9), NULL_FAULT);
        ordinaryDue("27 lay on nothing", x -> x.lay(3, 0, 9), NULL_FAULT);
        ordinaryDue("27 lay before", x -> x.lay(0, -1, 9), INDEX_FAULT);
        ordinaryDue("27 lay behind", x -> x.lay(0, 5, 9), INDEX_FAULT);
        fullDue("27 lay behind", x -> x.lay(0, 60, 9), INDEX_FAULT);
    }

    private static void worthsOfSheets() {
        refusedInAll("28 worths of heir -1", x -> x.worths(-1, 0, 0, 0), BAD);
        refusedInAll("28 worths of heir 4", x -> x.worths(4, 0, 0, 0), BAD);
        refusedInAll("28 worths of sheet -1", x -> x.worths(0, -1, 0, 0), BAD);
        refusedInAll("28 worths of sheet 4", x -> x.worths(0, 4, 0, 0), BAD);
        refusedInAll("28 worths of lane -1", x -> x.worths(0, 0, -1, 0), BAD);
        refusedInAll("28 worths of lane 3", x -> x.worths(0, 0, 3, 0), BAD);
        ordinaryDue("28 worths of nothing", x -> x.worths(0, 3, 0, 0), NULL_FAULT);
        ordinaryDue("28 worths of another lane", x -> x.worths(0, 1, 0, 0), CAST_FAULT);
        ordinaryDue("28 worths before", x -> x.worths(0, 1, 1, -1), INDEX_FAULT);
        ordinaryDue("28 worths behind the last", x -> x.worths(0, 1, 1, 5), INDEX_FAULT);
        fullDue("28 worths behind the last", x -> x.worths(0, 0, 0, 51), INDEX_FAULT);
        dueUnchanged("28 no worth of the last", RefusalTest::withNoWorthLast, x -> x.worths(0, 1, 1, 0), -27);
        dueUnchanged("28 no worth of the first", RefusalTest::withNoWorthLast, x -> x.worths(0, 1, 1, 7), -20);
    }

    private static HouseSorted withNoWorthLast() {
        HouseSorted x = ordinary();
        x.lay(1, 7, 101);
        return x;
    }

    // ---- what asks

    private static void asksThatAreRefused() {
        for (int v : new int[] {-1, 10, LEAST_INT, MOST_INT}) {
            refusedInAll("12 told(" + v + ", 0)", x -> x.told(v, 0), BAD);
            refusedInAll("12 told(0, " + v + ")", x -> x.told(0, v), BAD);
            refusedInAll("13 way(" + v + ", 0)", x -> x.way(v, 0), BAD);
            refusedInAll("13 way(0, " + v + ")", x -> x.way(0, v), BAD);
            refusedInAll("14 asks(" + v + ")", x -> x.asks(v), BAD);
            refusedInAll("15 turns(" + v + ")", x -> x.turns(v), BAD);
            refusedInAll("16 lie by rule " + v, x -> x.lie(v, 0, 0, 0), BAD);
            refusedInAll("16 lie of heir " + v, x -> x.lie(0, v, 0, 0), BAD);
            refusedInAll("16 lie for thing " + v, x -> x.lie(0, 0, v, 0), BAD);
            refusedInAll("17 gain by rule " + v, x -> x.gain(v, 0), BAD);
            refusedInAll("17 gain of heir " + v, x -> x.gain(0, v), BAD);
            refusedInAll("18 sum of heir " + v, x -> x.sum(0, v, 0), BAD);
            refusedInAll("18 sum of other " + v, x -> x.sum(0, 0, v), BAD);
            refusedInAll("19 envies of " + v, x -> x.envies(0, v, 0), BAD);
            refusedInAll("19 envied of " + v, x -> x.envies(0, 0, v), BAD);
            refusedInAll("22 bid(" + v + ")", x -> x.bid(v), BAD);
            refusedInAll("23 settled(" + v + ", 0)", x -> x.settled(v, 0), NOT_SETTLED);
            refusedInAll("23 settled(0, " + v + ")", x -> x.settled(0, v), NOT_SETTLED);
            refusedInAll("24 loads(" + v + ")", x -> x.loads(v), BAD);
            refusedInAll("25 load(" + v + ")", x -> x.load(v), BAD);
            refusedInAll("29 count(" + v + ")", x -> x.count(v), BAD);
        }
        refusedInAll("16 lie of -1", x -> x.lie(0, 0, 0, -1), BAD);
        refusedInAll("16 lie of 101", x -> x.lie(0, 0, 0, 101), BAD);
        for (int v : new int[] {-1, 4194304, LEAST_INT, MOST_INT}) {
            refusedInAll("18 sum of sharing " + v, x -> x.sum(v, 0, 0), BAD);
            refusedInAll("19 envies of sharing " + v, x -> x.envies(v, 0, 1), BAD);
            refusedInAll("20 envy(" + v + ")", x -> x.envy(v), BAD);
        }
        refusedInAll("19 envies of one", x -> x.envies(0, 0, 0), BAD);
    }

    private static void asksThatAreNotMet() {
        emptyDue("15 turns", x -> x.turns(0), STATE);
        emptyDue("21 fairest", HouseSorted::fairest, STATE);
        fullDue("21 fairest", HouseSorted::fairest, STATE);
        ordinaryDue("22 bid", x -> x.bid(0), NONE);
        ordinaryDue("24 loads", x -> x.loads(2), NONE);
        ordinaryDue("25 load", x -> x.load(5), NONE);
    }

    /** What only asks: SHARED are 3, 4 and 7. */
    private static void asksThatAreAnswered() {
        ordinaryDue("5 fault", HouseSorted::fault, 3);
        ordinaryDue("6 law", x -> x.law(0), 20);
        ordinaryDue("12 told", x -> x.told(7, 5), 0);
        ordinaryDue("13 way", x -> x.way(0, 1), 48);
        ordinaryDue("14 asks", x -> x.asks(7), 330);
        ordinaryDue("15 turns", x -> x.turns(0), 2 + 9);
        ordinaryDue("16 lie", x -> x.lie(0, 0, 3, 100), 3 * 2 + 9);
        ordinaryDue("17 gain", x -> x.gain(0, 0), 0);
        ordinaryDue("18 sum", x -> x.sum(0, 1, 0), 38);
        ordinaryDue("19 envies", x -> x.envies(0, 1, 0), 2);
        ordinaryDue("20 envy", x -> x.envy(0), 2);
        ordinaryDue("21 fairest", HouseSorted::fairest, 1 + 18);
        ordinaryDue("22 bid", x -> x.bid(7), 2);
        ordinaryDue("23 settled", x -> x.settled(1, 1), 12);
        ordinaryDue("24 loads", x -> x.loads(0), 2);
        ordinaryDue("25 load", x -> x.load(4), 1);
        ordinaryDue("29 count", x -> x.count(3), 3);
    }

    public static void main(String[] args) {
        differentObjectsAreSeen();
        tape();
        lawsWithAFault();
        heirsAndThings();
        worthsAndLooks();
        sheets();
        worthsOfSheets();
        asksThatAreRefused();
        asksThatAreNotMet();
        asksThatAreAnswered();
        System.out.println(checks + " refusals looked at, " + wrong + " not as due");
        if (wrong != 0) {
            System.exit(1);
        }
    }
}
