import java.util.ArrayList;
import java.util.Arrays;
import java.util.List;
import java.util.Random;
import java.util.TreeMap;

/** Runs of calls by chance (always the same ones) against a second, slow reading of the document. */
public final class ModelTest {
    private static final int RUNS = 1000, CALLS = 150;
    /** What the model does slowly is asked a few times only. */
    private static final int DEAR_CALLS = 15;

    /** The document told once more, by going through all and with no thought of speed. */
    private static final class Model {
        final List<String> lawNames = List.of("keep", "sale", "gift", "van", "look", "fur", "gun");
        final List<String> wayNames = List.of("kin", "sale", "gift", "tip");
        final int[][] bounds = {{0, 99}, {0, 1000}, {0, 100}, {1, 200}, {0, 1000}};
        String tape = "";
        TreeMap<Integer, Integer> laws = new TreeMap<>();
        int fault = 0;
        int heirs = 0;
        final List<int[]> things = new ArrayList<>();
        final List<int[]> worths = new ArrayList<>();
        final Object[] sheets = new Object[4];

        int feed(long v) {
            if (tape.length() + 8 > 160) {
                return -3;
            }
            for (int i = 7; i >= 0; i--) {
                tape += (char) (v >> 8 * i & 255);
            }
            return tape.length();
        }

        int end(int n) {
            if (n < 0 || n > tape.length()) {
                return -1;
            }
            int had = tape.length();
            tape = tape.substring(0, n);
            return had;
        }

        int laws() {
            String text = tape;
            tape = "";
            TreeMap<Integer, Integer> fresh = new TreeMap<>();
            int place = 0;
            int wanted = 0;
            int law = -1;
            while (true) {
                while (place < text.length() && text.charAt(place) == ' ') {
                    place++;
                }
                String token = tokenAt(text, place);
                if (token.isEmpty() && place == text.length() && wanted == 0) {
                    laws = fresh;
                    fault = 0;
                    return fresh.size();
                }
                fault = faultOf(token, place == text.length(), wanted, law, fresh);
                if (fault != 0) {
                    return -10 - place;
                }
                if (wanted == 0) {
                    law = lawNames.indexOf(token);
                } else if (wanted == 1) {
                    fresh.put(law, law < 5 ? Integer.parseInt(token) : wayNames.indexOf(token));
                }
                wanted = (wanted + 1) % 3;
                place += token.length();
            }
        }

        String tokenAt(String text, int place) {
            String rest = text.substring(place);
            String name = rest.replaceFirst("(?s)^([a-z]*).*$", "$1");
            String number = rest.replaceFirst("(?s)^([0-9]*).*$", "$1");
            return !name.isEmpty() ? name : !number.isEmpty() ? number : rest.startsWith(";") ? ";" : "";
        }

        int faultOf(String token, boolean atEnd, int wanted, int law, TreeMap<Integer, Integer> fresh) {
            if (atEnd) {
                return 2;
            }
            boolean name = lawNames.contains(token) || wayNames.contains(token);
            boolean number = token.matches("[0-9]{1,4}");
            if (!name && !number && !token.equals(";")) {
                return 1;
            }
            switch (wanted) {
                case 0:
                    return !lawNames.contains(token) ? 2 : fresh.containsKey(lawNames.indexOf(token)) ? 4 : 0;
                case 1:
                    if (law >= 5) {
                        return wayNames.contains(token) ? 0 : 2;
                    }
                    if (!number) {
                        return 2;
                    }
                    int v = Integer.parseInt(token);
                    return v < bounds[law][0] || v > bounds[law][1] ? 3 : 0;
                default:
                    return token.equals(";") ? 0 : 2;
            }
        }

        int law(int k) {
            int[] usual = {10, 200, 1, 100, 20, 1, 3};
            return k < 0 || k > 6 ? -1 : laws.getOrDefault(k, usual[k]);
        }

        int heir() {
            return heirs == 4 ? -3 : heirs++;
        }

        int thing(int weight, int low, int high, int age, int marks) {
            boolean fits = weight >= 1 && weight <= 50 && low >= 0 && low <= high && high <= 1000 && age >= 0
                && age <= 99 && marks >= 0 && marks <= 15;
            if (!fits) {
                return -1;
            }
            if (things.size() == 10) {
                return -3;
            }
            things.add(new int[] {weight, low, high, age, marks});
            worths.add(new int[4]);
            return things.size() - 1;
        }

        boolean noThing(int t) {
            return t < 0 || t >= things.size();
        }

        boolean noHeir(int h) {
            return h < 0 || h >= heirs;
        }

        int worth(int h, int t, int v) {
            if (noHeir(h) || noThing(t) || v < 0 || v > 100) {
                return -1;
            }
            int was = worths.get(t)[h];
            worths.get(t)[h] = v;
            return was;
        }

        int gone() {
            if (things.isEmpty()) {
                return -4;
            }
            things.remove(things.size() - 1);
            worths.remove(things.size());
            return things.size();
        }

        int look(int t, int low, int high) {
            if (noThing(t) || low > high || low < things.get(t)[1] || high > things.get(t)[2]) {
                return -1;
            }
            things.get(t)[1] = low;
            things.get(t)[2] = high;
            return 1;
        }

        int wayOf(int t) {
            int[] x = things.get(t);
            boolean paper = x[4] % 2 == 1;
            boolean fur = x[4] / 2 % 2 == 1;
            boolean gun = x[4] / 4 % 2 == 1;
            boolean name = x[4] / 8 == 1;
            boolean wanted = Arrays.stream(worths.get(t)).anyMatch(w -> w > 0);
            return gun ? law(6) : fur ? law(5) : paper && x[3] <= law(0) ? 4 : name ? 0 : x[1] >= law(1) ? 1
                : wanted ? 0 : x[1] >= law(2) ? 2 : 3;
        }

        int told(int t, int what) {
            return noThing(t) || what < 0 || what > 5 ? -1 : what == 5 ? wayOf(t) : things.get(t)[what];
        }

        List<Integer> on(int way) {
            List<Integer> found = new ArrayList<>();
            for (int t = 0; t < things.size(); t++) {
                if (wayOf(t) == way) {
                    found.add(t);
                }
            }
            return found;
        }

        int way(int way, int what) {
            if (way < 0 || way > 4 || what < 0 || what > 3) {
                return -1;
            }
            return on(way).stream().mapToInt(t -> what == 0 ? 1 : things.get(t)[what - 1]).sum();
        }

        int asks(int t) {
            if (noThing(t)) {
                return -1;
            }
            int[] x = things.get(t);
            boolean sent = x[4] >= 2 || x[4] == 1 && x[3] <= law(0);
            return sent || x[1] >= law(1) || x[2] < law(1) ? 0 : Math.max(0, x[2] - law(1) - law(4));
        }

        int[] takers(int rule, int liar, int about, int v) {
            List<Integer> shared = on(0);
            List<Integer> left = new ArrayList<>(shared);
            int[] takers = new int[shared.size()];
            List<Integer> queue = new ArrayList<>();
            while (queue.size() < shared.size()) {
                for (int h = 0; h < heirs; h++) {
                    queue.add(h);
                }
                for (int h = 0; h < heirs; h++) {
                    queue.add(rule == 0 ? h : heirs - 1 - h);
                }
            }
            for (int n = 0; n < shared.size(); n++) {
                int h = queue.get(n);
                int best = left.get(0);
                for (int t : left) {
                    if (said(h, t, liar, about, v) > said(h, best, liar, about, v)) {
                        best = t;
                    }
                }
                left.remove(Integer.valueOf(best));
                takers[shared.indexOf(best)] = h;
            }
            return takers;
        }

        int said(int h, int t, int liar, int about, int v) {
            return h == liar && t == about ? v : worths.get(t)[h];
        }

        int numberOf(int[] takers) {
            int number = 0;
            int unit = 1;
            for (int h : takers) {
                number += h * unit;
                unit *= heirs;
            }
            return number;
        }

        int turns(int rule) {
            return rule < 0 || rule > 1 ? -1 : heirs == 0 ? -2 : numberOf(takers(rule, -1, 0, 0));
        }

        int lie(int rule, int h, int t, int v) {
            boolean bad = rule < 0 || rule > 1 || noHeir(h) || noThing(t) || v < 0 || v > 100;
            return bad ? -1 : numberOf(takers(rule, h, t, v));
        }

        int gain(int rule, int h) {
            if (rule < 0 || rule > 1 || noHeir(h)) {
                return -1;
            }
            int honest = sumOf(takers(rule, -1, 0, 0), h, h);
            int most = 0;
            for (int t = 0; t < things.size(); t++) {
                for (int v = 0; v <= 100; v++) {
                    most = Math.max(most, sumOf(takers(rule, h, t, v), h, h) - honest);
                }
            }
            return most;
        }

        int sumOf(int[] takers, int h, int other) {
            List<Integer> shared = on(0);
            int sum = 0;
            for (int j = 0; j < takers.length; j++) {
                sum += takers[j] == other ? worths.get(shared.get(j))[h] : 0;
            }
            return sum;
        }

        int[] sharing(int number) {
            int[] takers = new int[on(0).size()];
            if (number < 0 || number >= Math.pow(heirs, takers.length)) {
                return null;
            }
            for (int j = 0; j < takers.length; j++) {
                takers[j] = number / (int) Math.pow(heirs, j) % heirs;
            }
            return takers;
        }

        int sum(int number, int h, int other) {
            int[] takers = sharing(number);
            return takers == null || noHeir(h) || noHeir(other) ? -1 : sumOf(takers, h, other);
        }

        int envies(int number, int a, int b) {
            int[] takers = sharing(number);
            if (takers == null || noHeir(a) || noHeir(b) || a == b) {
                return -1;
            }
            int own = sumOf(takers, a, a);
            if (sumOf(takers, a, b) <= own) {
                return 0;
            }
            for (int j = 0; j < takers.length; j++) {
                int[] fewer = takers.clone();
                fewer[j] = takers[j] == b ? -1 : takers[j];
                if (sumOf(fewer, a, b) <= own) {
                    return 1;
                }
            }
            return 2;
        }

        int envy(int number) {
            if (sharing(number) == null) {
                return -1;
            }
            int pairs = 0;
            for (int a = 0; a < heirs; a++) {
                for (int b = 0; b < heirs; b++) {
                    pairs += envies(number, a, b) > 0 ? 1 : 0;
                }
            }
            return pairs;
        }

        int fairest() {
            int[] shared = on(0).stream().mapToInt(t -> t).toArray();
            if (heirs == 0 || shared.length > 8) {
                return -2;
            }
            long best = -1;
            int answer = 0;
            int all = (int) Math.pow(heirs, shared.length);
            for (int number = 0; number < all; number++) {
                int[] sums = new int[heirs];
                for (int j = 0, rest = number; j < shared.length; j++, rest /= heirs) {
                    sums[rest % heirs] += worths.get(shared[j])[rest % heirs];
                }
                long grade = Arrays.stream(sums).min().getAsInt() * 1000000L + Arrays.stream(sums).sum();
                if (grade > best) {
                    best = grade;
                    answer = number;
                }
            }
            return answer;
        }

        int bid(int t) {
            if (noThing(t)) {
                return -1;
            }
            if (heirs == 0) {
                return -2;
            }
            int most = Arrays.stream(worths.get(t)).max().getAsInt();
            return wayOf(t) != 0 ? -4 : Arrays.stream(worths.get(t)).boxed().toList().indexOf(most);
        }

        int settled(int h, int what) {
            if (noHeir(h) || what < 0 || what > 3) {
                return -100000;
            }
            int over = 0;
            int[][] rows = new int[heirs][3];
            for (int i = 0; i < heirs; i++) {
                for (int t : on(0)) {
                    rows[i][0] += bid(t) == i ? worths.get(t)[i] : 0;
                    rows[i][1] += worths.get(t)[i];
                }
                rows[i][1] = Math.floorDiv(rows[i][1], heirs);
                rows[i][2] = rows[i][0] - rows[i][1];
                over += rows[i][2];
            }
            return what < 3 ? rows[h][what] : rows[h][2] - Math.floorDiv(over, heirs);
        }

        /** All ways, in order, each THING's LOAD at most one above those before it. */
        int[] bestPacking(List<Integer> cargo) {
            int[][] best = new int[1][];
            int[] fewest = {99};
            packAll(cargo, new int[cargo.size()], 0, new int[11], best, fewest);
            return best[0];
        }

        void packAll(List<Integer> cargo, int[] at, int i, int[] full, int[][] best, int[] fewest) {
            int used = 0;
            while (full[used] > 0) {
                used++;
            }
            if (i == at.length) {
                if (used < fewest[0]) {
                    fewest[0] = used;
                    best[0] = at.clone();
                }
                return;
            }
            int weight = things.get(cargo.get(i))[0];
            for (int k = 0; k <= used; k++) {
                if (full[k] + weight <= law(3)) {
                    full[k] += weight;
                    at[i] = k;
                    packAll(cargo, at, i + 1, full, best, fewest);
                    full[k] -= weight;
                }
            }
        }

        int loads(int way) {
            if (way < 0 || way > 4) {
                return -1;
            }
            int[] packing = bestPacking(on(way));
            return packing == null ? -4 : Arrays.stream(packing).max().orElse(-1) + 1;
        }

        int load(int t) {
            if (noThing(t)) {
                return -1;
            }
            List<Integer> cargo = on(wayOf(t));
            int[] packing = bestPacking(cargo);
            return packing == null ? -4 : packing[cargo.indexOf(t)];
        }

        int sheet(int k, int lane, int n) {
            if (k < 0 || k > 3 || lane < 0 || lane > 2 || n > 60) {
                return -1;
            }
            if (n < 0) {
                return -14;
            }
            sheets[k] = lane == 0 ? new byte[n] : lane == 1 ? (Object) new short[n] : new int[n];
            return 1;
        }

        int lay(int k, int i, int v) {
            if (k < 0 || k > 3) {
                return -1;
            }
            try {
                if (sheets[k] instanceof byte[] bytes) {
                    bytes[i] = (byte) v;
                } else if (sheets[k] instanceof short[] shorts) {
                    shorts[i] = (short) v;
                } else {
                    ((int[]) sheets[k])[i] = v;
                }
                return 1;
            } catch (NullPointerException e) {
                return -11;
            } catch (ArrayIndexOutOfBoundsException e) {
                return -12;
            }
        }

        int cell(Object row, int lane, int i) {
            return lane == 0 ? ((byte[]) row)[i] : lane == 1 ? ((short[]) row)[i] : ((int[]) row)[i];
        }

        int worths(int h, int k, int lane, int f) {
            if (noHeir(h) || k < 0 || k > 3 || lane < 0 || lane > 2) {
                return -1;
            }
            Class<?>[] kinds = {byte[].class, short[].class, int[].class};
            if (sheets[k] == null) {
                return -11;
            }
            if (!kinds[lane].isInstance(sheets[k])) {
                return -13;
            }
            int[] fresh = new int[things.size()];
            for (int t = 0; t < fresh.length; t++) {
                try {
                    fresh[t] = cell(sheets[k], lane, f + t);
                } catch (ArrayIndexOutOfBoundsException e) {
                    return -12;
                }
                if (fresh[t] < 0 || fresh[t] > 100) {
                    return -20 - t;
                }
            }
            int changed = 0;
            for (int t = 0; t < fresh.length; t++) {
                changed += worth(h, t, fresh[t]) != fresh[t] ? 1 : 0;
            }
            return changed;
        }

        int count(int what) {
            return what == 0 ? heirs : what == 1 ? things.size() : what == 2 ? laws.size() : what == 3 ? on(0).size()
                : -1;
        }
    }

    private final Random chance;
    private final HouseSorted real = new HouseSorted();
    private final Model model = new Model();
    private final int mostWorth;
    private int dear = 0;
    private int wrong = 0;

    private ModelTest(int seed) {
        chance = new Random(seed);
        mostWorth = new int[] {3, 12, 100}[seed % 3];
    }

    private void same(String call, int got, int want) {
        if (got != want) {
            wrong++;
            System.out.println(call + " answered " + got + ", due is " + want);
        }
    }

    /** From least to most, now and then one beside them or far away. */
    private int some(int least, int most) {
        int kind = chance.nextInt(60);
        if (kind < 4) {
            return new int[] {least - 1, most + 1, Integer.MIN_VALUE, Integer.MAX_VALUE}[kind];
        }
        return least + chance.nextInt(most - least + 1);
    }

    private String someText() {
        String[] words = {"keep", "sale", "gift", "van", "look", "fur", "gun", "kin", "tip", "paper", ";", "7",
            "00100", "1000", "\u0080", "0"};
        String[] laws = {"keep %d;", "sale %d ;", " gift %d;", "van %d;", "look %d;"};
        int[] bounds = {99, 1000, 100, 200, 1000};
        StringBuilder text = new StringBuilder();
        int parts = chance.nextInt(6);
        int from = chance.nextInt(7);
        for (int i = 0; i < parts; i++) {
            int k = chance.nextInt(25) == 0 ? from : (from + i) % 7;
            if (chance.nextInt(25) == 0) {
                text.append(words[chance.nextInt(words.length)]).append(' ');
            } else if (k < 5) {
                int v = k == 3 ? 20 + chance.nextInt(100) : chance.nextInt(bounds[k] + (k == 0 ? 2 : 1));
                text.append(String.format(laws[k], v));
            } else {
                text.append(words[k]).append(' ').append(new String[] {"kin", "sale", "gift", "tip"}[chance.nextInt(4)])
                    .append(';');
            }
        }
        return text.toString();
    }

    private void tapeCalls() {
        String text = someText();
        int places = (text.length() + 7) / 8 * 8;
        for (int i = 0; i < places; i += 8) {
            long v = 0;
            for (int j = i; j < i + 8; j++) {
                v = v << 8 | (j < text.length() ? text.charAt(j) : ' ');
            }
            same("feed", real.feed(v), model.feed(v));
        }
        int n = chance.nextInt(12) == 0 ? some(0, 160) : Math.min(text.length(), model.tape.length());
        same("end(" + n + ")", real.end(n), model.end(n));
        if (chance.nextInt(10) != 0) {
            same("laws of '" + model.tape + "'", real.laws(), model.laws());
            same("fault", real.fault(), model.fault);
        }
        for (int k = -1; k <= 7; k++) {
            same("law(" + k + ")", real.law(k), model.law(k));
        }
    }

    private void houseCalls(int call) {
        int h = some(0, 3);
        int t = some(0, 9);
        switch (call) {
            case 0:
                same("heir", real.heir(), model.heir());
                break;
            case 1:
                int low = chance.nextInt(2) == 0 ? some(0, 3) : some(0, 1000);
                int high = Math.max(low, some(0, 1000));
                int weight = some(1, 50);
                int age = some(0, 20);
                int marks = chance.nextInt(2) == 0 ? 8 * chance.nextInt(2) : some(0, 15);
                same("thing", real.thing(weight, low, high, age, marks), model.thing(weight, low, high, age, marks));
                break;
            case 2:
                int v = some(0, mostWorth);
                same("worth", real.worth(h, t, v), model.worth(h, t, v));
                break;
            case 3:
                same("gone", real.gone(), model.gone());
                break;
            case 4:
                int from = some(0, 500);
                int to = some(0, 1000);
                same("look", real.look(t, from, to), model.look(t, from, to));
                break;
            default:
                int what = some(0, 5);
                int way = some(0, 4);
                same("told", real.told(t, what), model.told(t, what));
                same("way", real.way(way, what), model.way(way, what));
                same("asks", real.asks(t), model.asks(t));
                same("count", real.count(what), model.count(what));
                break;
        }
    }

    private int someSharing() {
        int all = (int) Math.min(2000000, Math.pow(Math.max(1, model.heirs), model.on(0).size()));
        return some(0, all - 1);
    }

    private void sharingCalls(int call) {
        int rule = some(0, 1);
        int h = some(0, 3);
        int t = some(0, 9);
        int s = someSharing();
        switch (call) {
            case 0:
                same("turns(" + rule + ")", real.turns(rule), model.turns(rule));
                break;
            case 1:
                int v = some(0, mostWorth);
                same("lie", real.lie(rule, h, t, v), model.lie(rule, h, t, v));
                break;
            case 2:
                int other = some(0, 3);
                same("sum", real.sum(s, h, other), model.sum(s, h, other));
                same("envies", real.envies(s, h, other), model.envies(s, h, other));
                break;
            case 3:
                same("envy", real.envy(s), model.envy(s));
                break;
            case 4:
                int what = some(0, 3);
                same("bid", real.bid(t), model.bid(t));
                same("settled", real.settled(h, what), model.settled(h, what));
                break;
            default:
                dearCall(rule, h, t);
                break;
        }
    }

    private void dearCall(int rule, int h, int t) {
        dear++;
        if (dear > DEAR_CALLS) {
            return;
        }
        int way = some(0, 4);
        same("gain", real.gain(rule, h), model.gain(rule, h));
        same("fairest", real.fairest(), model.fairest());
        same("loads", real.loads(way), model.loads(way));
        same("load", real.load(t), model.load(t));
    }

    private void sheetCalls(int call) {
        int k = some(0, 3);
        int lane = some(0, 2);
        if (call == 0) {
            int n = chance.nextInt(3) == 0 ? some(0, 60) : some(5, 14);
            same("sheet", real.sheet(k, lane, n), model.sheet(k, lane, n));
        } else if (call < 4) {
            int i = some(0, 14);
            int v = chance.nextInt(20) == 0 ? chance.nextInt() : chance.nextInt(4) << new int[] {0, 8, 16}[call - 1] | some(0, 90);
            same("lay", real.lay(k, i, v), model.lay(k, i, v));
        } else {
            int h = some(0, 3);
            int f = some(0, 5);
            same("worths", real.worths(h, k, lane, f), model.worths(h, k, lane, f));
        }
    }

    /** Many HEIRS want many THINGS. */
    private void fillHouse() {
        int heirs = 1 + chance.nextInt(4);
        int things = 4 + chance.nextInt(7);
        for (int h = 0; h < heirs; h++) {
            same("heir", real.heir(), model.heir());
        }
        for (int t = 0; t < things; t++) {
            int weight = 1 + chance.nextInt(50);
            same("thing", real.thing(weight, 0, 0, 0, 8), model.thing(weight, 0, 0, 0, 8));
            for (int h = 0; h < heirs; h++) {
                int v = chance.nextInt(mostWorth + 1);
                same("worth", real.worth(h, t, v), model.worth(h, t, v));
            }
        }
        for (int h = 0; h < heirs; h++) {
            same("gain", real.gain(h % 2, h), model.gain(h % 2, h));
        }
        same("fairest", real.fairest(), model.fairest());
        same("loads", real.loads(0), model.loads(0));
        for (int t = 0; t < things; t += 3) {
            same("load", real.load(t), model.load(t));
        }
    }

    private int run() {
        if (chance.nextBoolean()) {
            fillHouse();
        }
        for (int n = 0; n < CALLS; n++) {
            int kind = chance.nextInt(20);
            if (kind == 0) {
                tapeCalls();
            } else if (kind < 10) {
                int[] calls = {0, 1, 1, 1, 2, 2, 2, 2, 2, 2, 3, 4, 5, 5};
                houseCalls(calls[chance.nextInt(calls.length)]);
            } else if (kind < 16) {
                sharingCalls(chance.nextInt(6));
            } else {
                sheetCalls(chance.nextInt(6));
            }
        }
        return wrong;
    }

    public static void main(String[] args) {
        int wrong = 0;
        for (int seed = 0; seed < RUNS && wrong == 0; seed++) {
            wrong = new ModelTest(seed).run();
            if (wrong != 0) {
                System.out.println("run by chance " + seed);
            }
        }
        System.out.println(RUNS + " runs against the model, " + wrong + " answers not as due");
        if (wrong != 0) {
            System.exit(1);
        }
    }
}
