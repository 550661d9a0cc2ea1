import java.util.Arrays;
import java.util.Random;

/** Promise 21 against plainly going through all SHARINGS, with WORTHS of many kinds (always the same ones). */
public final class FairestTest {
    private static final int NAME_MARK = 8, GUN_MARK = 4;
    private static final int KINDS = 9, HOUSES_OF_A_KIND = 60;
    private static int checks = 0;
    private static int wrong = 0;

    private static void due(int[][] worths, int got, int want) {
        checks++;
        if (got != want) {
            wrong++;
            System.out.println("fairest() of " + Arrays.deepToString(worths) + " answered " + got + ", due is " + want);
        }
    }

    /** Every SHARING in the order of numbers: a later one is taken only if it is better. */
    private static int byGoingThroughAll(int[][] worths) {
        int heirs = worths.length;
        int things = worths[0].length;
        int sharings = 1;
        for (int j = 0; j < things; j++) {
            sharings *= heirs;
        }
        int best = 0;
        int bestLeast = -1;
        int bestTotal = -1;
        int[] sums = new int[heirs];
        for (int number = 0; number < sharings; number++) {
            Arrays.fill(sums, 0);
            for (int j = 0, rest = number; j < things; j++, rest /= heirs) {
                sums[rest % heirs] += worths[rest % heirs][j];
            }
            int least = Arrays.stream(sums).min().getAsInt();
            int total = Arrays.stream(sums).sum();
            if (least > bestLeast || least == bestLeast && total > bestTotal) {
                best = number;
                bestLeast = least;
                bestTotal = total;
            }
        }
        return best;
    }

    /** THINGS that are not SHARED stand between those that are. */
    private static HouseSorted houseOf(int[][] worths, boolean between) {
        HouseSorted x = new HouseSorted();
        for (int h = 0; h < worths.length; h++) {
            x.heir();
        }
        for (int j = 0; j < worths[0].length; j++) {
            if (between && (j == 0 || j == 5)) {
                int other = x.thing(1, 0, 0, 0, GUN_MARK);
                for (int h = 0; h < worths.length; h++) {
                    x.worth(h, other, 100);
                }
            }
            int thing = x.thing(1, 0, 0, 0, NAME_MARK);
            for (int h = 0; h < worths.length; h++) {
                x.worth(h, thing, worths[h][j]);
            }
        }
        return x;
    }

    private static int worthOfKind(int kind, int heir, int j, int[] base, Random chance) {
        switch (kind) {
            case 0: return chance.nextInt(101);
            case 1: return base[j];
            case 2: return Math.max(0, Math.min(100, base[j] + chance.nextInt(5) - 2));
            case 3: return 90 + chance.nextInt(11);
            case 4: return chance.nextInt(3);
            case 5: return heir == 0 ? 0 : chance.nextInt(101);
            case 6: return j == 0 ? 100 : chance.nextInt(4);
            case 7: return chance.nextInt(3) == 0 ? chance.nextInt(101) : 0;
            default: return j % 4 == heir ? 100 : chance.nextInt(2);
        }
    }

    private static int[][] worthsOfKind(int kind, int heirs, int things, Random chance) {
        int[] base = new int[things];
        for (int j = 0; j < things; j++) {
            base[j] = 1 + chance.nextInt(100);
        }
        int[][] worths = new int[heirs][things];
        for (int h = 0; h < heirs; h++) {
            for (int j = 0; j < things; j++) {
                worths[h][j] = worthOfKind(kind, h, j, base, chance);
            }
        }
        return worths;
    }

    private static void byChance() {
        Random chance = new Random(20261116);
        for (int kind = 0; kind < KINDS; kind++) {
            for (int n = 0; n < HOUSES_OF_A_KIND; n++) {
                int heirs = 1 + chance.nextInt(4);
                int things = n % 4 == 0 ? 8 : chance.nextInt(9);
                int[][] worths = worthsOfKind(kind, heirs, things, chance);
                due(worths, houseOf(worths, n % 2 == 0).fairest(), byGoingThroughAll(worths));
            }
        }
    }

    /** One object whose WORTHS change: an earlier search leaves nothing behind. */
    private static void againAndAgain() {
        Random chance = new Random(21);
        int[][] worths = new int[4][6];
        HouseSorted x = houseOf(worths, false);
        due(worths, x.fairest(), 0);
        for (int n = 0; n < 200; n++) {
            int heir = chance.nextInt(4);
            int thing = chance.nextInt(6);
            worths[heir][thing] = chance.nextInt(101);
            x.worth(heir, thing, worths[heir][thing]);
            due(worths, x.fairest(), byGoingThroughAll(worths));
        }
    }

    private static void equalWorths() {
        for (int heirs = 1; heirs <= 4; heirs++) {
            for (int things = 0; things <= 8; things++) {
                for (int worth : new int[] {0, 1, 100}) {
                    int[][] worths = new int[heirs][things];
                    for (int[] row : worths) {
                        Arrays.fill(row, worth);
                    }
                    due(worths, houseOf(worths, false).fairest(), byGoingThroughAll(worths));
                }
            }
        }
    }

    public static void main(String[] args) {
        byChance();
        againAndAgain();
        equalWorths();
        System.out.println(checks + " fairest sharings looked at, " + wrong + " not as due");
        if (wrong != 0) {
            System.exit(1);
        }
    }
}
