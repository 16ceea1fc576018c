import java.util.ArrayDeque;
import java.util.ArrayList;
import java.util.Arrays;
import java.util.Comparator;
import java.util.List;
import java.util.NoSuchElementException;
import java.util.regex.Matcher;
import java.util.regex.Pattern;

/** The document's words once more, as slowly and as literally as they can be put; for comparison only. */
final class Oracle {
    private record Bond(int number, int person, int office, int pay, int years, int town) {}

    private record Pair(int first, int second) {}

    private static final class Couple {
        int first;
        int second;
        List<Pair> list = new ArrayList<>();
    }

    private static final String TWO = "(?:0%s[1-6]|1%s[02-6]|2%s[013-6]|3%s[0-24-6]|4%s[0-356]|5%s[0-46]|6%s[0-5])";
    private static final String LINE = "(?:[qc][0-9]{1,3}|r(?:[+-][pytkn]){1,5}|k[0-3]\\*[0-9]|w" + two("&") + "|x"
            + two("\\|") + ")";
    private static final Pattern TEXT = Pattern.compile(LINE + "(?:;" + LINE + ")*");

    private final List<Integer> kinds = new ArrayList<>();
    private final List<List<Integer>> lists = new ArrayList<>();
    private final List<String> choices = new ArrayList<>();
    private final List<Bond> bonds = new ArrayList<>();
    private final List<Couple> couples = new ArrayList<>();
    private String text = "";
    private List<Integer> row = new ArrayList<>();
    private int[] more = new int[4];

    private static String two(String between) {
        return TWO.replace("%s", between);
    }

    int person(int kind) {
        if (kind < 0 || kind > 3 || kinds.size() == 7) {
            return -1;
        }
        kinds.add(kind);
        lists.add(new ArrayList<>());
        return kinds.size() - 1;
    }

    int office() {
        if (choices.size() == 4) {
            return -1;
        }
        choices.add("");
        return choices.size() - 1;
    }

    int bond(int person, int office, int pay, int years, int town) {
        if (person < 0 || person >= kinds.size() || office < 0 || office >= choices.size()) {
            return -1;
        }
        if (pay < 0 || pay > 99 || years < 0 || years > 9 || town < 0 || town > 9) {
            return -1;
        }
        long ofOffice = bonds.stream().filter(b -> b.office == office).count();
        long ofPerson = bonds.stream().filter(b -> b.person == person).count();
        if (bonds.size() == 20 || ofOffice == 8 || ofPerson == 5) {
            return -1;
        }
        bonds.add(new Bond(bonds.size(), person, office, pay, years, town));
        return bonds.size() - 1;
    }

    int list(int bond) {
        if (!isBond(bond)) {
            return -1;
        }
        List<Integer> list = lists.get(bonds.get(bond).person);
        if (list.contains(bond)) {
            return -1;
        }
        list.add(bond);
        return list.size();
    }

    int clear(int person) {
        if (person < 0 || person >= kinds.size()) {
            return -1;
        }
        int many = lists.get(person).size();
        lists.get(person).clear();
        return many;
    }

    int couple(int first, int second) {
        if (first < 0 || second < 0 || first >= kinds.size() || second >= kinds.size() || first == second) {
            return -1;
        }
        if (coupleOf(first) >= 0 || coupleOf(second) >= 0 || couples.size() == 2) {
            return -1;
        }
        Couple c = new Couple();
        c.first = first;
        c.second = second;
        couples.add(c);
        return couples.size() - 1;
    }

    int pair(int couple, int first, int second) {
        if (couple < 0 || couple >= couples.size()) {
            return -1;
        }
        Couple c = couples.get(couple);
        if (first != -1 && (!isBond(first) || bonds.get(first).person != c.first)) {
            return -1;
        }
        if (second != -1 && (!isBond(second) || bonds.get(second).person != c.second)) {
            return -1;
        }
        Pair p = new Pair(first, second);
        if (first == -1 && second == -1 || c.list.contains(p) || c.list.size() == 8) {
            return -1;
        }
        c.list.add(p);
        return c.list.size();
    }

    int sign(int v) {
        if (text.length() + 4 > 100) {
            return -1;
        }
        for (int i = 3; i >= 0; i--) {
            text += (char) (v >> 8 * i & 255);
        }
        return text.length();
    }

    boolean end(int n) {
        if (n < 0 || n > text.length()) {
            return false;
        }
        text = text.substring(0, n);
        return true;
    }

    int choice(int office) {
        String told = text;
        text = "";
        if (office < 0 || office >= choices.size()) {
            return -100;
        }
        for (int p = 0; p < told.length() && p < 60; p++) {
            Matcher m = TEXT.matcher(told.substring(0, p + 1));
            if (!m.matches() && !m.hitEnd()) {
                return -1 - p;
            }
        }
        if (told.length() > 60) {
            return -61;
        }
        if (!TEXT.matcher(told).matches()) {
            return -1 - told.length();
        }
        choices.set(office, told);
        return told.split(";").length;
    }

    int take(int office, int offered) {
        if (office < 0 || office >= choices.size() || !isSet(offered)) {
            return -1;
        }
        return taken(office, offered);
    }

    int why(int office, int offered, int bond) {
        if (office < 0 || office >= choices.size() || !isSet(offered) || !isBond(bond)) {
            return -1;
        }
        if (bonds.get(bond).office != office || !has(offered, bond)) {
            return -1;
        }
        int taken = taken(office, offered);
        if (has(taken, bond)) {
            return 0;
        }
        List<Bond> with = new ArrayList<>();
        for (Bond b : members(taken)) {
            if (ordering(office).compare(b, bonds.get(bond)) < 0) {
                with.add(b);
            }
        }
        with.add(bonds.get(bond));
        if (with.stream().map(Bond::person).distinct().count() < with.size()) {
            return 1;
        }
        if (with.size() > q(office)) {
            return 2;
        }
        if (!keepsPay(office, with)) {
            return 3;
        }
        if (!keepsPlaces(office, with)) {
            return 4;
        }
        return keepsApart(office, with) ? 6 : 5;
    }

    int order(int bond) {
        if (!isBond(bond)) {
            return -1;
        }
        List<Bond> sorted = new ArrayList<>(bonds);
        sorted.removeIf(b -> b.office != bonds.get(bond).office);
        sorted.sort(ordering(bonds.get(bond).office));
        return sorted.indexOf(bonds.get(bond));
    }

    int law(int office, int what) {
        if (office < 0 || office >= choices.size() || what < 0 || what > 1) {
            return -1;
        }
        int mine = ofOffice(office);
        for (int set = 0; set < 1 << bonds.size(); set++) {
            if ((set & ~mine) != 0) {
                continue;
            }
            int taken = taken(office, set);
            for (Bond more : members(mine & ~set)) {
                int then = taken(office, set | 1 << more.number);
                if (what == 1 && Integer.bitCount(then) < Integer.bitCount(taken)) {
                    row = List.of(set, more.number);
                    return 0;
                }
                for (Bond other : members(set)) {
                    if (what == 0 && !has(taken, other.number) && has(then, other.number)) {
                        row = List.of(set, more.number, other.number);
                        return 0;
                    }
                }
            }
        }
        return 1;
    }

    int judge(int set) {
        if (!isSet(set)) {
            return -1;
        }
        if (!isMatching(set)) {
            return 1;
        }
        if (!isFree(set)) {
            return 2;
        }
        for (int o = 0; o < choices.size(); o++) {
            int z = leastBreaking(o, set);
            if (z >= 0) {
                row = List.of(o, z);
                return 3;
            }
        }
        for (int c = 0; c < couples.size(); c++) {
            int pair = breakingPair(c, set);
            if (pair >= 0) {
                row = List.of(c, pair);
                return 4;
            }
        }
        return 0;
    }

    private record Outcome(int held, int rounds, int offered) {}

    int offer() {
        Outcome o = offers(lists);
        if (o == null) {
            return -3;
        }
        row = List.of(o.rounds, o.offered);
        return o.held;
    }

    int all() {
        List<Integer> all = standing();
        row = new ArrayList<>(all.subList(0, Math.min(40, all.size())));
        return all.size();
    }

    int best(int side) {
        if (side < 0 || side > 1) {
            return -1;
        }
        List<Integer> all = standing();
        for (int m : all) {
            boolean such = true;
            for (int other : all) {
                if (other != m) {
                    such &= side == 0 ? isBetter(m, other) : isBetter(other, m);
                }
            }
            if (such) {
                return m;
            }
        }
        return -2;
    }

    int steps(int from, int to) {
        List<Integer> all = standing();
        if (!all.contains(from) || !all.contains(to)) {
            return -1;
        }
        int[] distance = new int[all.size()];
        Arrays.fill(distance, -2);
        ArrayDeque<Integer> queue = new ArrayDeque<>();
        queue.add(all.indexOf(from));
        distance[all.indexOf(from)] = 0;
        while (!queue.isEmpty()) {
            int at = queue.remove();
            for (int i = 0; i < all.size(); i++) {
                if (distance[i] == -2 && isNext(all, all.get(at), all.get(i))) {
                    distance[i] = distance[at] + 1;
                    queue.add(i);
                }
            }
        }
        return distance[all.indexOf(to)];
    }

    private boolean isNext(List<Integer> all, int one, int other) {
        if (isBetter(other, one)) {
            return isNext(all, other, one);
        }
        if (!isBetter(one, other)) {
            return false;
        }
        for (int between : all) {
            if (isBetter(one, between) && isBetter(between, other)) {
                return false;
            }
        }
        return true;
    }

    int near() {
        int least = 1000;
        for (int set : matchings()) {
            if (!isFree(set)) {
                continue;
            }
            int breaking = 0;
            for (int c = 0; c < couples.size(); c++) {
                breaking += breakingPair(c, set) >= 0 ? 1 : 0;
            }
            for (Bond b : bonds) {
                if (!has(set, b.number) && coupleOf(b.person) < 0 && wants(b, set)
                        && has(taken(b.office, set & ofOffice(b.office) | 1 << b.number), b.number)) {
                    breaking++;
                }
            }
            if (breaking < least) {
                least = breaking;
                row = List.of(set);
            }
        }
        return least;
    }

    int places() {
        int n = choices.size();
        for (int total = 0; total <= 3; total++) {
            for (int code = 0; code < 1 << 2 * n; code++) {
                int sum = 0;
                boolean fits = true;
                int[] rows = new int[4];
                for (int o = 0; o < n; o++) {
                    rows[o] = code >> 2 * (n - 1 - o) & 3;
                    sum += rows[o];
                    fits &= rows[o] == 0 || !choices.get(o).isEmpty() && q(o) + rows[o] <= 8;
                }
                if (sum == total && fits) {
                    more = rows;
                    boolean stands = !standing().isEmpty();
                    more = new int[4];
                    if (stands) {
                        row = new ArrayList<>();
                        for (int o = 0; o < n; o++) {
                            row.add(rows[o]);
                        }
                        return total;
                    }
                }
            }
        }
        return -2;
    }

    int gain(int person) {
        if (person < 0 || person >= kinds.size() || coupleOf(person) >= 0) {
            return -1;
        }
        Outcome truly = offers(lists);
        if (truly == null) {
            return 0;
        }
        List<Integer> mine = new ArrayList<>();
        for (Bond b : bonds) {
            if (b.person == person) {
                mine.add(b.number);
            }
        }
        for (List<Integer> lie : rowsOf(mine)) {
            List<List<Integer>> others = new ArrayList<>(lists);
            others.set(person, lie);
            Outcome then = offers(others);
            if (then != null && rankOf(person, then.held) < rankOf(person, truly.held)) {
                row = lie;
                return 1;
            }
        }
        return 0;
    }

    private static List<List<Integer>> rowsOf(List<Integer> numbers) {
        List<List<Integer>> rows = new ArrayList<>();
        rows.add(List.of());
        for (int i = 0; i < rows.size(); i++) {
            for (int n : numbers) {
                if (!rows.get(i).contains(n)) {
                    List<Integer> longer = new ArrayList<>(rows.get(i));
                    longer.add(n);
                    rows.add(longer);
                }
            }
        }
        return rows;
    }

    int left() {
        List<Integer> all = standing();
        int left = 0;
        for (int p = 0; p < kinds.size(); p++) {
            boolean nothing = true;
            for (int m : all) {
                nothing &= (m & ofPerson(p)) == 0;
            }
            left |= nothing ? 1 << p : 0;
        }
        return all.isEmpty() ? -2 : left;
    }

    int same() {
        List<Integer> all = standing();
        int same = 0;
        for (int o = 0; o < choices.size(); o++) {
            int mine = ofOffice(o);
            same |= all.stream().map(m -> m & mine).distinct().count() == 1 ? 1 << o : 0;
        }
        return all.isEmpty() ? -2 : same;
    }

    int lot(int bond) {
        if (!isBond(bond)) {
            return -1;
        }
        List<Integer> all = standing();
        if (all.isEmpty()) {
            return -2;
        }
        int times = (int) all.stream().filter(m -> has(m, bond)).count();
        int gcd = java.math.BigInteger.valueOf(times).gcd(java.math.BigInteger.valueOf(all.size())).intValue();
        row = List.of(times / gcd, all.size() / gcd);
        return 1000 * times / all.size();
    }

    int mean() {
        List<Integer> all = standing();
        if (all.isEmpty()) {
            return -2;
        }
        int mean = 0;
        for (int p = 0; p < kinds.size(); p++) {
            if (coupleOf(p) < 0) {
                int person = p;
                List<Integer> had = new ArrayList<>(all);
                had.sort(Comparator.comparingInt(m -> rankOf(person, m)));
                mean |= had.get((all.size() - 1) / 2) & ofPerson(p);
            }
        }
        return mean;
    }

    int gone(int what, int number) {
        if (what < 0 || what > 1 || number < 0 || number >= (what == 0 ? kinds.size() : bonds.size())) {
            return -1;
        }
        List<List<Integer>> others = new ArrayList<>();
        for (int p = 0; p < kinds.size(); p++) {
            others.add(new ArrayList<>(what == 0 && p == number ? List.of() : lists.get(p)));
            if (what == 1) {
                others.get(p).remove((Integer) number);
            }
        }
        Outcome before = offers(lists);
        Outcome then = offers(others);
        if (before == null || then == null) {
            return -3;
        }
        int moved = 0;
        for (int p = 0; p < kinds.size(); p++) {
            moved |= (before.held & ofPerson(p)) != (then.held & ofPerson(p)) ? 1 << p : 0;
        }
        row = List.of(then.held, moved);
        return Integer.bitCount(moved);
    }

    int count(int what) {
        int[] counts = {kinds.size(), choices.size(), bonds.size(), couples.size(), text.length(), row.size()};
        return what < 0 || what > 5 ? -1 : counts[what];
    }

    int of(int bond, int what) {
        if (!isBond(bond) || what < 0 || what > 5) {
            return -1;
        }
        Bond b = bonds.get(bond);
        return new int[] {b.person, b.office, b.pay, b.years, b.town, lists.get(b.person).indexOf(bond)}[what];
    }

    int row(int i) {
        if (i < 0 || i >= row.size()) {
            throw new NoSuchElementException();
        }
        return row.get(i);
    }

    // ---- the terms

    private static boolean has(int set, int bond) {
        return (set >> bond & 1) != 0;
    }

    private boolean isBond(int bond) {
        return bond >= 0 && bond < bonds.size();
    }

    private boolean isSet(int set) {
        return set >= 0 && set < 1 << bonds.size();
    }

    private int ofOffice(int office) {
        return bonds.stream().filter(b -> b.office == office).mapToInt(b -> 1 << b.number).sum();
    }

    private int ofPerson(int person) {
        return bonds.stream().filter(b -> b.person == person).mapToInt(b -> 1 << b.number).sum();
    }

    private int coupleOf(int person) {
        for (int c = 0; c < couples.size(); c++) {
            if (couples.get(c).first == person || couples.get(c).second == person) {
                return c;
            }
        }
        return -1;
    }

    private List<Bond> members(int set) {
        List<Bond> members = new ArrayList<>();
        for (Bond b : bonds) {
            if (has(set, b.number)) {
                members.add(b);
            }
        }
        return members;
    }

    private String[] lines(int office) {
        return choices.get(office).split(";");
    }

    private int q(int office) {
        int q = 8;
        for (String line : lines(office)) {
            if (line.startsWith("q")) {
                q = Integer.parseInt(line.substring(1));
            }
        }
        return q + more[office];
    }

    private boolean keepsPay(int office, List<Bond> set) {
        int c = Integer.MAX_VALUE;
        for (String line : lines(office)) {
            if (line.startsWith("c")) {
                c = Integer.parseInt(line.substring(1));
            }
        }
        return set.stream().mapToInt(Bond::pay).sum() <= c;
    }

    private boolean keepsPlaces(int office, List<Bond> set) {
        for (String line : lines(office)) {
            if (line.startsWith("k")) {
                int kind = line.charAt(1) - '0';
                int bound = Math.max(0, q(office) - (line.charAt(3) - '0'));
                if (set.stream().filter(b -> kinds.get(b.person) != kind).count() > bound) {
                    return false;
                }
            }
        }
        return true;
    }

    private boolean keepsApart(int office, List<Bond> set) {
        for (String line : lines(office)) {
            if (line.startsWith("x") && isThere(set, line.charAt(1)) && isThere(set, line.charAt(3))) {
                return false;
            }
        }
        return true;
    }

    private boolean keepsTogether(int office, List<Bond> set) {
        for (String line : lines(office)) {
            if (line.startsWith("w") && isThere(set, line.charAt(1)) != isThere(set, line.charAt(3))) {
                return false;
            }
        }
        return true;
    }

    private static boolean isThere(List<Bond> set, char person) {
        return set.stream().anyMatch(b -> b.person == person - '0');
    }

    private boolean isAllowed(int office, int set) {
        if (choices.get(office).isEmpty()) {
            return set == 0;
        }
        List<Bond> members = members(set);
        return members.stream().map(Bond::person).distinct().count() == members.size()
                && members.size() <= q(office) && keepsPay(office, members) && keepsPlaces(office, members)
                && keepsApart(office, members) && keepsTogether(office, members);
    }

    private Comparator<Bond> ordering(int office) {
        String keys = "";
        for (String line : lines(office)) {
            keys = line.startsWith("r") ? line.substring(1) : keys;
        }
        Comparator<Bond> ordering = (a, b) -> 0;
        for (int i = 0; i < keys.length(); i += 2) {
            char letter = keys.charAt(i + 1);
            Comparator<Bond> key = Comparator.comparingInt(b -> value(b, letter));
            ordering = ordering.thenComparing(keys.charAt(i) == '+' ? key.reversed() : key);
        }
        return ordering.thenComparingInt(Bond::number);
    }

    private int value(Bond b, char letter) {
        return switch (letter) {
            case 'p' -> b.pay;
            case 'y' -> b.years;
            case 't' -> b.town;
            case 'k' -> kinds.get(b.person);
            default -> b.person;
        };
    }

    private final java.util.Map<List<Object>, Integer> known = new java.util.HashMap<>();

    private int taken(int office, int offered) {
        int mine = offered & ofOffice(office);
        List<Object> key = List.of(office, mine, choices.get(office), more[office]);
        Integer before = known.get(key);
        if (before != null) {
            return before;
        }
        List<Bond> order = members(mine);
        order.sort(ordering(office));
        int first = 0;
        for (int set = mine; set > 0; set = set - 1 & mine) {
            if (isAllowed(office, set) && isFirst(order, set, first)) {
                first = set;
            }
        }
        known.put(key, first);
        return first;
    }

    private static boolean isFirst(List<Bond> order, int set, int than) {
        for (Bond b : order) {
            if (has(set, b.number) != has(than, b.number)) {
                return has(set, b.number);
            }
        }
        return false;
    }

    private boolean isMatching(int set) {
        for (int p = 0; p < kinds.size(); p++) {
            if (Integer.bitCount(set & ofPerson(p)) > 1) {
                return false;
            }
        }
        return true;
    }

    private List<Integer> matchings() {
        List<Integer> sets = new ArrayList<>();
        sets.add(0);
        for (int p = 0; p < kinds.size(); p++) {
            for (int set : new ArrayList<>(sets)) {
                for (Bond b : members(ofPerson(p))) {
                    sets.add(set | 1 << b.number);
                }
            }
        }
        sets.sort(null);
        return sets;
    }

    private Pair pairOf(int couple, int set) {
        Couple c = couples.get(couple);
        return new Pair(bondOf(c.first, set), bondOf(c.second, set));
    }

    private int bondOf(int person, int set) {
        int mine = set & ofPerson(person);
        return mine == 0 ? -1 : Integer.numberOfTrailingZeros(mine);
    }

    private boolean isFree(int set) {
        for (Bond b : members(set)) {
            if (coupleOf(b.person) < 0 && !lists.get(b.person).contains(b.number)) {
                return false;
            }
        }
        for (int c = 0; c < couples.size(); c++) {
            Pair has = pairOf(c, set);
            if (!has.equals(new Pair(-1, -1)) && !couples.get(c).list.contains(has)) {
                return false;
            }
        }
        for (int o = 0; o < choices.size(); o++) {
            if (taken(o, set) != (set & ofOffice(o))) {
                return false;
            }
        }
        return true;
    }

    private int rankOf(int person, int set) {
        int bond = bondOf(person, set);
        List<Integer> list = lists.get(person);
        return bond < 0 ? list.size() : list.contains(bond) ? list.indexOf(bond) : 99;
    }

    private boolean wants(Bond b, int set) {
        List<Integer> list = lists.get(b.person);
        return list.contains(b.number) && list.indexOf(b.number) < rankOf(b.person, set);
    }

    private int leastBreaking(int office, int set) {
        int mine = ofOffice(office);
        int h = set & mine;
        int z = 0;
        do {
            boolean fit = z != h;
            for (Bond b : members(z & ~h)) {
                fit &= coupleOf(b.person) < 0 && wants(b, set);
            }
            if (fit && taken(office, h | z) == z) {
                return z;
            }
            z = z - mine & mine;
        } while (z != 0);
        return -1;
    }

    private int breakingPair(int couple, int set) {
        Couple c = couples.get(couple);
        Pair has = pairOf(couple, set);
        int rank = has.equals(new Pair(-1, -1)) ? c.list.size() : c.list.indexOf(has);
        for (int i = 0; i < rank; i++) {
            int pair = 0;
            pair |= c.list.get(i).first >= 0 ? 1 << c.list.get(i).first : 0;
            pair |= c.list.get(i).second >= 0 ? 1 << c.list.get(i).second : 0;
            boolean breaks = true;
            for (Bond b : members(pair)) {
                int without = set & ~ofPerson(c.first) & ~ofPerson(c.second);
                breaks &= has(taken(b.office, without | pair), b.number);
            }
            if (breaks) {
                return i;
            }
        }
        return -1;
    }

    private boolean stands(int set) {
        if (!isFree(set)) {
            return false;
        }
        for (int o = 0; o < choices.size(); o++) {
            if (leastBreaking(o, set) >= 0) {
                return false;
            }
        }
        for (int c = 0; c < couples.size(); c++) {
            if (breakingPair(c, set) >= 0) {
                return false;
            }
        }
        return true;
    }

    private List<Integer> standing() {
        List<Integer> all = new ArrayList<>();
        for (int set : matchings()) {
            if (stands(set)) {
                all.add(set);
            }
        }
        return all;
    }

    private boolean isBetter(int one, int other) {
        boolean better = false;
        for (int p = 0; p < kinds.size(); p++) {
            int c = coupleOf(p);
            int mine = c < 0 ? rankOf(p, one) : rankOfPair(c, one);
            int its = c < 0 ? rankOf(p, other) : rankOfPair(c, other);
            if (mine > its) {
                return false;
            }
            better |= mine < its;
        }
        return better;
    }

    private int rankOfPair(int couple, int set) {
        int at = couples.get(couple).list.indexOf(pairOf(couple, set));
        return at < 0 ? couples.get(couple).list.size() : at;
    }

    private Outcome offers(List<List<Integer>> told) {
        int[] next = new int[kinds.size()];
        int offered = 0;
        int held = 0;
        int rounds = 0;
        while (true) {
            boolean any = false;
            for (int p = 0; p < kinds.size(); p++) {
                if (coupleOf(p) < 0 && (held & ofPerson(p)) == 0 && next[p] < told.get(p).size()) {
                    offered |= 1 << told.get(p).get(next[p]++);
                    any = true;
                }
            }
            if (!any) {
                break;
            }
            rounds++;
            held = 0;
            for (int o = 0; o < choices.size(); o++) {
                held |= taken(o, offered);
            }
        }
        return isMatching(held) ? new Outcome(held, rounds, Integer.bitCount(offered)) : null;
    }
}
