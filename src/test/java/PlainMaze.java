import java.util.ArrayList;
import java.util.Comparator;
import java.util.List;
import java.util.Map;
import java.util.TreeMap;
import java.util.regex.Matcher;
import java.util.regex.Pattern;

/**
 * The document once more, in the plainest way that the whole Java library allows, and by other ways than
 * the class goes: to compare answers with. A refused call throws Refused, all else is as in the face.
 */
final class PlainMaze {
    static final class Refused extends RuntimeException {
        private static final long serialVersionUID = 1L;
        final int reason;
        final int detail;

        Refused(int reason, int detail) {
            this.reason = reason;
            this.detail = detail;
        }
    }

    private static final class Person {
        int coins;
        int premiums;
        int paid;
        int trimmed;
        int cell;
        int spent;
        int allowance;
        int giver = -1;
        int rate;
        boolean isVoid;
        boolean isOut;

        Person(int coins) {
            this.coins = coins;
        }

        Person copy() {
            Person twin = new Person(coins);
            twin.premiums = premiums;
            twin.paid = paid;
            twin.trimmed = trimmed;
            twin.cell = cell;
            twin.spent = spent;
            twin.allowance = allowance;
            twin.giver = giver;
            twin.rate = rate;
            twin.isVoid = isVoid;
            twin.isOut = isOut;
            return twin;
        }

        int lost() {
            return spent > allowance ? spent - allowance : 0;
        }
    }

    private static final class Scene {
        final Map<Integer, Integer> leaves = new TreeMap<>();
        final List<Person> gardeners = new ArrayList<>();
        final List<Person> visitors = new ArrayList<>();
        int minotaur = -1;
        int summers;
        int brought;
        int trimming;

        Scene copy() {
            Scene twin = new Scene();
            twin.leaves.putAll(leaves);
            for (Person person : gardeners) {
                twin.gardeners.add(person.copy());
            }
            for (Person person : visitors) {
                twin.visitors.add(person.copy());
            }
            twin.minotaur = minotaur;
            twin.summers = summers;
            twin.brought = brought;
            twin.trimming = trimming;
            return twin;
        }
    }

    private static final String COMMAND = "(?:h\\d{1,2}-\\d{1,2}=\\d|s|t\\d:\\d{1,2}-\\d{1,2}|m(?:\\d{1,2}|x)"
        + "|[gv]\\d{1,2}|b\\d>\\d\\*\\d|w\\d[nesw]|r\\d\\+\\d)";
    private static final Pattern TEXT = Pattern.compile(COMMAND + "(?:;" + COMMAND + ")*");
    private static final int ENDLESS = 1_000_000;

    private Scene scene = new Scene();
    private Scene snapshot;
    private final List<Scene> earlier = new ArrayList<>();
    private String buffer = "";
    private String line = "";
    private int fault = -1;
    private int[] reason;

    PlainMaze() {
        for (int low = 0; low < 16; low++) {
            for (int high = low + 1; high < 16; high++) {
                if (areNeighbours(low, high)) {
                    scene.leaves.put(low * 100 + high, 0);
                }
            }
        }
    }

    private static boolean areNeighbours(int one, int other) {
        return Math.abs(one / 4 - other / 4) + Math.abs(one % 4 - other % 4) == 1;
    }

    private static int key(int one, int other) {
        return Math.min(one, other) * 100 + Math.max(one, other);
    }

    private static boolean isIn(int number, int least, int most) {
        return least <= number && number <= most;
    }

    private static void refuseIf(boolean applies, int reason, int detail) {
        if (applies) {
            throw new Refused(reason, detail);
        }
    }

    private static void boundsIf(boolean applies) {
        if (applies) {
            throw new IndexOutOfBoundsException();
        }
    }

    private static void argumentIf(boolean applies) {
        if (applies) {
            throw new IllegalArgumentException();
        }
    }

    private static void stateIf(boolean applies) {
        if (applies) {
            throw new IllegalStateException();
        }
    }

    private static void noneIf(boolean applies) {
        if (applies) {
            throw new java.util.NoSuchElementException();
        }
    }

    /** Carries out a change by its letter in a text; what refuses it is kept with the index. */
    int change(char kind, int... numbers) {
        Scene before = scene.copy();
        try {
            int answer = doChange(kind, numbers);
            keep(before);
            return answer;
        } catch (Refused refused) {
            reason = new int[] {refused.reason, refused.detail, 0};
            scene = before;
            throw refused;
        }
    }

    private void keep(Scene before) {
        earlier.add(before);
        if (earlier.size() > 8) {
            earlier.remove(0);
        }
    }

    private int doChange(char kind, int... n) {
        switch (kind) {
            case 'h': return hedge(n[0], n[1], n[2]);
            case 's': return summer();
            case 't': return trim(n[0], n[1], n[2]);
            case 'm': return minotaur(n[0]);
            case 'g': return gardener(n[0]);
            case 'v': return visitor(n[0]);
            case 'b': return bond(n[0], n[1], n[2]);
            case 'w': return walk(n[0], n[1]);
            default: return rest(n[0], n[1]);
        }
    }

    private int hedge(int one, int other, int leaves) {
        refuseIf(!isIn(one, 0, 15) || !isIn(other, 0, 15) || !isIn(leaves, 0, 9), 1, 0);
        refuseIf(!areNeighbours(one, other), 2, Math.max(one, other));
        refuseIf(scene.leaves.get(key(one, other)) == leaves, 3, leaves);
        return scene.leaves.put(key(one, other), leaves);
    }

    private int summer() {
        int closed = 0;
        for (Map.Entry<Integer, Integer> hedge : scene.leaves.entrySet()) {
            closed += hedge.getValue() == 4 ? 1 : 0;
            hedge.setValue(Math.min(9, hedge.getValue() + 1));
        }
        scene.summers++;
        return closed;
    }

    private int trim(int gardener, int one, int other) {
        refuseIf(!isIn(gardener, 0, scene.gardeners.size() - 1), 4, scene.gardeners.size());
        refuseIf(!isIn(one, 0, 15) || !isIn(other, 0, 15), 1, 0);
        refuseIf(!areNeighbours(one, other), 2, Math.max(one, other));
        refuseIf(scene.leaves.get(key(one, other)) == 0, 3, 0);
        Person person = scene.gardeners.get(gardener);
        refuseIf(person.coins < 2, 5, 2 - person.coins);
        scene.leaves.put(key(one, other), 0);
        scene.trimming += 2;
        person.trimmed++;
        return person.coins -= 2;
    }

    private int minotaur(int cell) {
        refuseIf(!isIn(cell, -1, 15), 1, 0);
        refuseIf(cell == scene.minotaur, 3, cell);
        scene.minotaur = cell;
        int met = 0;
        for (Person person : scene.visitors) {
            if (!person.isOut && person.cell == cell) {
                met++;
                person.isVoid |= person.giver >= 0;
            }
        }
        return met;
    }

    private int gardener(int coins) {
        refuseIf(!isIn(coins, 0, 99), 1, 0);
        refuseIf(scene.gardeners.size() == 4, 13, 4);
        scene.gardeners.add(new Person(coins));
        scene.brought += coins;
        return scene.gardeners.size() - 1;
    }

    private int visitor(int coins) {
        refuseIf(!isIn(coins, 0, 99), 1, 0);
        refuseIf(scene.visitors.size() == 5, 13, 5);
        int hours = distances(1, ENDLESS)[0][15];
        refuseIf(hours >= ENDLESS, 6, Integer.bitCount(reached(0)));
        Person person = new Person(coins);
        person.allowance = hours;
        scene.visitors.add(person);
        scene.brought += coins;
        return scene.visitors.size() - 1;
    }

    private int bond(int gardener, int visitor, int rate) {
        refuseIf(!isIn(gardener, 0, scene.gardeners.size() - 1), 4, scene.gardeners.size());
        refuseIf(!isIn(visitor, 0, scene.visitors.size() - 1), 7, scene.visitors.size());
        Person taker = scene.visitors.get(visitor);
        refuseIf(!isIn(rate, 1, 5), 1, 0);
        refuseIf(taker.isOut, 9, taker.spent);
        refuseIf(taker.giver >= 0, 8, taker.giver);
        refuseIf(taker.cell == scene.minotaur, 10, scene.minotaur);
        refuseIf(taker.coins < 2 * rate, 5, 2 * rate - taker.coins);
        taker.giver = gardener;
        taker.rate = rate;
        scene.gardeners.get(gardener).coins += 2 * rate;
        scene.gardeners.get(gardener).premiums += 2 * rate;
        return taker.coins -= 2 * rate;
    }

    private int walk(int visitor, int direction) {
        refuseIf(!isIn(visitor, 0, scene.visitors.size() - 1), 7, scene.visitors.size());
        refuseIf(!isIn(direction, 0, 3), 1, 0);
        Person walker = scene.visitors.get(visitor);
        refuseIf(walker.isOut, 9, walker.spent);
        int row = walker.cell / 4 + new int[] {-1, 0, 1, 0}[direction];
        int column = walker.cell % 4 + new int[] {0, 1, 0, -1}[direction];
        refuseIf(!isIn(row, 0, 3) || !isIn(column, 0, 3), 11, walker.cell);
        int leaves = scene.leaves.get(key(walker.cell, row * 4 + column));
        refuseIf(leaves > 4, 12, leaves);
        walker.cell = row * 4 + column;
        walker.spent++;
        walker.isVoid |= walker.giver >= 0 && walker.cell == scene.minotaur;
        if (walker.cell == 15) {
            if (walker.giver >= 0 && !walker.isVoid) {
                Person giver = scene.gardeners.get(walker.giver);
                int pay = Math.min(giver.coins, walker.rate * walker.lost());
                giver.coins -= pay;
                giver.paid += pay;
                walker.coins += pay;
            }
            walker.giver = -1;
            walker.rate = 0;
            walker.isVoid = false;
            walker.isOut = true;
        }
        return walker.cell;
    }

    private int rest(int visitor, int hours) {
        refuseIf(!isIn(visitor, 0, scene.visitors.size() - 1), 7, scene.visitors.size());
        refuseIf(!isIn(hours, 1, 9), 1, 0);
        Person rester = scene.visitors.get(visitor);
        refuseIf(rester.isOut, 9, rester.spent);
        return rester.spent += hours;
    }

    /** All distances at once, by cells that ways may go over. */
    private int[][] distances(int gapCost, int hedgeCost) {
        return distances(scene.leaves, gapCost, hedgeCost);
    }

    private static int[][] distances(Map<Integer, Integer> leaves, int gapCost, int hedgeCost) {
        int[][] far = new int[16][16];
        for (int one = 0; one < 16; one++) {
            for (int other = 0; other < 16; other++) {
                Integer between = leaves.get(key(one, other));
                int step = between == null ? ENDLESS : between < 5 ? gapCost : hedgeCost;
                far[one][other] = one == other ? 0 : step;
            }
        }
        for (int over = 0; over < 16; over++) {
            for (int one = 0; one < 16; one++) {
                for (int other = 0; other < 16; other++) {
                    far[one][other] = Math.min(far[one][other], far[one][over] + far[over][other]);
                }
            }
        }
        return far;
    }

    int leaves(int one, int other) {
        boundsIf(!isIn(one, 0, 15) || !isIn(other, 0, 15));
        noneIf(!areNeighbours(one, other));
        return scene.leaves.get(key(one, other));
    }

    boolean isGap(int one, int other) {
        boundsIf(!isIn(one, 0, 15) || !isIn(other, 0, 15));
        return areNeighbours(one, other) && leaves(one, other) < 5;
    }

    int hours(int from, int to) {
        boundsIf(!isIn(from, 0, 15) || !isIn(to, 0, 15));
        int hours = distances(1, ENDLESS)[from][to];
        noneIf(hours >= ENDLESS);
        return hours;
    }

    int next(int from) {
        int hours = hours(from, 15);
        for (int cell = 0; cell < 16; cell++) {
            if (isGap(from, cell) && hours(cell, 15) == hours - 1) {
                return cell;
            }
        }
        throw new java.util.NoSuchElementException();
    }

    int reached(int from) {
        boundsIf(!isIn(from, 0, 15));
        int cells = 0;
        for (int cell = 0; cell < 16; cell++) {
            cells += distances(1, ENDLESS)[from][cell] < ENDLESS ? 1 << cell : 0;
        }
        return cells;
    }

    int trims(int from) {
        boundsIf(!isIn(from, 0, 15));
        return distances(0, 1)[from][15];
    }

    boolean isNeeded(int one, int other) {
        leaves(one, other);
        Map<Integer, Integer> closed = new TreeMap<>(scene.leaves);
        closed.put(key(one, other), 9);
        return distances(1, ENDLESS)[0][15] < ENDLESS && distances(closed, 1, ENDLESS)[0][15] >= ENDLESS;
    }

    int closesIn(int one, int other) {
        int summers = 0;
        for (int leaves = leaves(one, other); leaves < 5; leaves++) {
            summers++;
        }
        return summers;
    }

    int summersLeft() {
        Map<Integer, Integer> later = new TreeMap<>(scene.leaves);
        int summers = 0;
        while (distances(later, 1, ENDLESS)[0][15] < ENDLESS) {
            summers++;
            later.replaceAll((hedge, leaves) -> leaves + 1);
        }
        return summers;
    }

    int gardenerOf(int gardener, int what) {
        boundsIf(!isIn(gardener, 0, scene.gardeners.size() - 1));
        argumentIf(!isIn(what, 0, 4));
        Person person = scene.gardeners.get(gardener);
        int bonds = (int) scene.visitors.stream().filter(visitor -> visitor.giver == gardener).count();
        return new int[] {person.coins, bonds, person.premiums, person.paid, person.trimmed}[what];
    }

    int visitorOf(int visitor, int what) {
        boundsIf(!isIn(visitor, 0, scene.visitors.size() - 1));
        argumentIf(!isIn(what, 0, 8));
        Person person = scene.visitors.get(visitor);
        return new int[] {person.coins, person.cell, person.spent, person.allowance, person.lost(), person.giver,
            person.rate, person.isVoid ? 1 : 0, person.isOut ? 1 : 0}[what];
    }

    int wouldPay(int visitor) {
        boundsIf(!isIn(visitor, 0, scene.visitors.size() - 1));
        Person person = scene.visitors.get(visitor);
        noneIf(person.isOut || person.giver < 0);
        int hours = person.spent + hours(person.cell, 15);
        int lost = Math.max(0, hours - person.allowance);
        return person.isVoid ? 0 : Math.min(scene.gardeners.get(person.giver).coins, person.rate * lost);
    }

    int owed(int gardener) {
        boundsIf(!isIn(gardener, 0, scene.gardeners.size() - 1));
        return scene.visitors.stream().filter(person -> person.giver == gardener && !person.isVoid)
            .mapToInt(person -> person.rate * person.lost()).sum();
    }

    int ranked(int measure, int place) {
        argumentIf(!isIn(measure, 0, 3));
        noneIf(!isIn(place, 0, scene.visitors.size() - 1));
        List<Integer> order = new ArrayList<>();
        for (int visitor = 0; visitor < scene.visitors.size(); visitor++) {
            order.add(visitor);
        }
        int what = new int[] {0, 2, 4, 6}[measure];
        order.sort(Comparator.comparingInt(visitor -> -visitorOf(visitor, what)));
        return order.get(place);
    }

    int richest(int place) {
        noneIf(!isIn(place, 0, scene.gardeners.size() - 1));
        List<Integer> order = new ArrayList<>();
        for (int gardener = 0; gardener < scene.gardeners.size(); gardener++) {
            order.add(gardener);
        }
        Comparator<Integer> byCoins = Comparator.comparingInt(gardener -> -gardenerOf(gardener, 0));
        order.sort(byCoins.thenComparingInt(this::owed));
        return order.get(place);
    }

    int append(char character) {
        stateIf(buffer.length() == 60);
        buffer += character;
        return buffer.length();
    }

    int commands() {
        String text = buffer;
        buffer = "";
        fault = faultOf(text);
        argumentIf(fault >= 0);
        Scene before = scene.copy();
        String[] parts = text.split(";");
        for (int index = 0; index < parts.length; index++) {
            try {
                carryOut(parts[index]);
            } catch (Refused refused) {
                reason = new int[] {refused.reason, refused.detail, index};
                scene = before;
                throw refused;
            }
        }
        keep(before);
        return parts.length;
    }

    /** A text can be continued from a place as long as the matcher only misses more of it. */
    private static int faultOf(String text) {
        for (int length = 1; length <= text.length(); length++) {
            Matcher matcher = TEXT.matcher(text.substring(0, length));
            if (!matcher.matches() && !matcher.hitEnd()) {
                return length - 1;
            }
        }
        return TEXT.matcher(text).matches() ? -1 : text.length();
    }

    private void carryOut(String command) {
        char kind = command.charAt(0);
        String rest = command.substring(1);
        if (kind == 'w') {
            doChange(kind, rest.charAt(0) - '0', "nesw".indexOf(rest.charAt(1)));
            return;
        }
        String[] told = rest.replace('x', '!').replace("!", "~1").split("[-=:>*+]");
        int[] numbers = new int[told.length];
        for (int i = 0; i < told.length; i++) {
            numbers[i] = told[i].isEmpty() ? 0 : Integer.parseInt(told[i].replace('~', '-'));
        }
        doChange(kind, numbers);
    }

    int faultPosition() {
        return fault;
    }

    int reason(int what) {
        argumentIf(!isIn(what, 0, 2));
        noneIf(reason == null);
        return reason[what];
    }

    int line(int visitor) {
        boundsIf(!isIn(visitor, 0, scene.visitors.size() - 1));
        Person person = scene.visitors.get(visitor);
        line = (person.isOut ? "out" : "" + person.cell) + "+" + person.spent;
        if (person.giver >= 0) {
            line += "#" + person.giver + "*" + person.rate + (person.isVoid ? "!" : "");
        }
        return line.length();
    }

    int row(int row) {
        argumentIf(!isIn(row, 0, 3));
        line = "";
        for (int i = 0; i < 4; i++) {
            int cell = row * 4 + i;
            long there = scene.visitors.stream().filter(person -> !person.isOut && person.cell == cell).count();
            line += cell == scene.minotaur ? "M" : "" + there;
            line += i == 3 ? "" : isGap(cell, cell + 1) ? " " : "|";
        }
        return line.length();
    }

    char character(int index) {
        boundsIf(!isIn(index, 0, line.length() - 1));
        return line.charAt(index);
    }

    double meanLost() {
        if (scene.visitors.isEmpty()) {
            throw new ArithmeticException();
        }
        double sum = scene.visitors.stream().mapToInt(Person::lost).sum();
        return sum / scene.visitors.size();
    }

    float gapShare() {
        return gaps() / 24f;
    }

    private int gaps() {
        return (int) scene.leaves.values().stream().filter(leaves -> leaves < 5).count();
    }

    int account(int what) {
        argumentIf(!isIn(what, 0, 11));
        int out = (int) scene.visitors.stream().filter(person -> person.isOut).count();
        int bonds = (int) scene.visitors.stream().filter(person -> person.giver >= 0).count();
        int voids = (int) scene.visitors.stream().filter(person -> person.isVoid).count();
        int coins = scene.gardeners.stream().mapToInt(person -> person.coins).sum()
            + scene.visitors.stream().mapToInt(person -> person.coins).sum();
        return new int[] {scene.gardeners.size(), scene.visitors.size(), out, bonds, voids, gaps(), scene.summers,
            scene.brought, scene.trimming, coins, earlier.size(), buffer.length()}[what];
    }

    int undo() {
        stateIf(earlier.isEmpty());
        scene = earlier.remove(earlier.size() - 1);
        return earlier.size();
    }

    int save() {
        snapshot = scene.copy();
        return scene.visitors.size();
    }

    int restore() {
        stateIf(snapshot == null);
        scene = snapshot.copy();
        earlier.clear();
        return scene.visitors.size();
    }
}
