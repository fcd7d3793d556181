import java.util.ArrayList;
import java.util.Arrays;
import java.util.Collections;
import java.util.HashSet;
import java.util.LinkedHashMap;
import java.util.List;
import java.util.Map;
import java.util.Random;
import java.util.Set;
import java.util.TreeMap;
import java.util.TreeSet;

/**
 * Runs of 512 calls each, the same ones every time, compared with Model: a second reading of the
 * document, in sets and lists and without regard to speed.
 */
public final class ModelTest {
    private static final int RUNS = 1500;
    private static final int CALLS = 512;
    private static final int USED_BEFORE = 160;
    private static final String[] BUILDING = {
        "setting", "setting", "alias", "platform", "has", "has", "condition", "condition", "asks", "asks", "asks",
        "target", "wants", "select", "branch", "branch", "branch", "branch", "otherwise", "need", "need", "change",
    };
    private static final String[] ASKING = {
        "base", "configuration", "set", "set", "value", "holds", "choose", "choose", "chosen", "chosen", "reads",
        "trim", "expand", "expand", "pair", "pair", "pair",
    };

    /** Numbers just within and just beyond the document's limits, and far ones. */
    private static final int[] EDGES = {
        Integer.MIN_VALUE, -2, -1, 0, 1, 2, 6, 7, 8, 9, 15, 16, 23, 24, 39, 40, 59, 60, 255, 256, Integer.MAX_VALUE,
    };

    public static void main(String[] args) {
        Map<String, Integer> seen = new TreeMap<>();
        for (int run = 0; run < RUNS; run++) {
            if (!agrees(run, seen)) {
                System.exit(1);
            }
        }
        boolean enough = true;
        for (String answer : new String[] {
            "choose 0", "choose 1", "choose 2", "expand -2", "set -1", "trim -1", "left out 1", "left out 2",
            "nested 1", "branch 0", "asks 0", "has 0", "need -1", "select -1", "change 0",
        }) {
            if (seen.getOrDefault(answer, 0) < 20) {
                System.out.println("too rare to be tested: " + answer + ", " + seen.getOrDefault(answer, 0) + " times");
                enough = false;
            }
        }
        System.out.println(RUNS + " runs of " + CALLS + " calls agree with the model");
        if (!enough || !edgesAgree()) {
            System.exit(1);
        }
    }

    private static boolean agrees(int number, Map<String, Integer> seen) {
        Random random = new Random(number);
        Run run = new Run();
        int building = 20 + random.nextInt(75);
        for (int i = 0; i < CALLS; i++) {
            boolean builds = random.nextInt(100) < (i < CALLS / 2 ? building : building / 3);
            String name = pick(random, builds ? BUILDING : ASKING);
            int[] a = arguments(name, random, run.model);
            if (!run.agreesOn(name, a)) {
                return false;
            }
            note(seen, name, a, run.latest);
        }
        return true;
    }

    /** Every call with all its arguments at the edges, some hundreds on each of many objects in use. */
    private static boolean edgesAgree() {
        List<Call> calls = edgeCalls();
        Collections.shuffle(calls, new Random(0));
        Run run = new Run();
        Random random = new Random(0);
        for (int i = 0; i < calls.size(); i++) {
            if (i % (CALLS - USED_BEFORE) == 0) {
                run = new Run();
                for (int j = 0; j < USED_BEFORE; j++) {
                    String name = pick(random, j % 5 == 0 ? ASKING : BUILDING);
                    if (!run.agreesOn(name, arguments(name, random, run.model))) {
                        return false;
                    }
                }
            }
            if (!run.agreesOn(calls.get(i).name(), calls.get(i).arguments())) {
                return false;
            }
        }
        System.out.println(calls.size() + " calls with arguments at the edges agree with the model");
        return true;
    }

    private static List<Call> edgeCalls() {
        Set<String> names = new TreeSet<>(Arrays.asList(BUILDING));
        names.addAll(Arrays.asList(ASKING));
        List<Call> calls = new ArrayList<>();
        for (String name : names) {
            int count = arguments(name, new Random(0), new Model()).length;
            addEdgeCalls(calls, name, new int[count], 0);
        }
        return calls;
    }

    private static void addEdgeCalls(List<Call> calls, String name, int[] a, int at) {
        if (at == a.length) {
            calls.add(new Call(name, a.clone()));
            return;
        }
        boolean yesOrNo = name.equals("asks") && at == 1 || name.equals("branch") && at == 2;
        for (int edge : yesOrNo ? new int[] {0, 1} : EDGES) {
            a[at] = edge;
            addEdgeCalls(calls, name, a, at + 1);
        }
    }

    private record Call(String name, int[] arguments) { }

    /** An object and its model, and all calls that both have had. */
    private static final class Run {
        final SelectConfig x = new SelectConfig();
        final Model model = new Model();
        final List<String> calls = new ArrayList<>();
        int latest;

        boolean agreesOn(String name, int[] a) {
            latest = call(x, name, a);
            int want = model.call(name, a);
            calls.add(name + Arrays.toString(a) + " -> " + latest);
            if (latest != want) {
                System.out.println(String.join("\n", calls) + ", due is " + want);
            }
            return latest == want;
        }
    }

    private static void note(Map<String, Integer> seen, String name, int[] a, int got) {
        seen.merge(name + " " + got, 1, Integer::sum);
        if (name.equals("pair") && a[1] == 2) {
            seen.merge("left out " + got, 1, Integer::sum);
        }
        if (name.equals("branch") && a[2] == 1) {
            seen.merge("nested " + got, 1, Integer::sum);
        }
    }

    private static String pick(Random random, String[] names) {
        return names[random.nextInt(names.length)];
    }

    /** Mostly a number that is there, now and then one that is just not, or a far one. */
    private static int number(Random random, int count) {
        int odd = random.nextInt(60);
        if (odd == 0) {
            return -1;
        }
        if (odd == 1) {
            return count;
        }
        if (odd == 2) {
            return random.nextInt();
        }
        return count == 0 ? 0 : random.nextInt(count);
    }

    private static int[] arguments(String name, Random r, Model m) {
        int values = r.nextInt(3) == 0 ? 8 : 3;
        switch (name) {
            case "setting":
                return new int[] {number(r, 9), number(r, 3)};
            case "alias":
                return new int[] {number(r, r.nextInt(3) == 0 ? 16 : m.settings.size() + 1)};
            case "base":
                return new int[] {number(r, m.settings.size())};
            case "has":
                return new int[] {number(r, m.platforms.size()), number(r, values), number(r, 3)};
            case "asks":
                return new int[] {number(r, m.conditions.size()), r.nextInt(2), number(r, values), number(r, 2)};
            case "wants":
                return new int[] {number(r, m.targets.size()), number(r, m.conditions.size())};
            case "select":
            case "reads":
                return new int[] {number(r, m.targets.size())};
            case "branch": {
                int nested = r.nextInt(3) == 0 ? 1 : 0;
                return new int[] {
                    number(r, m.selects.size()), number(r, m.conditions.size()), nested,
                    nested == 1 ? number(r, m.selects.size()) : r.nextInt(4) - 1,
                };
            }
            case "otherwise":
                return new int[] {number(r, m.selects.size()), r.nextInt(4) - 1};
            case "configuration":
                return new int[] {number(r, m.platforms.size())};
            case "set":
                return new int[] {number(r, m.configurations.size()), number(r, m.settings.size()), number(r, values)};
            case "value":
                return new int[] {number(r, m.configurations.size()), number(r, m.settings.size())};
            case "holds":
                return new int[] {number(r, m.conditions.size()), number(r, m.configurations.size())};
            case "choose":
                return new int[] {number(r, m.selects.size()), number(r, m.configurations.size())};
            case "chosen":
                return new int[] {number(r, 2)};
            case "need":
                return new int[] {number(r, m.targets.size()), number(r, m.targets.size())};
            case "change":
                return new int[] {
                    number(r, m.needs.size()), number(r, m.settings.size()), r.nextInt(20) == 0 ? r.nextInt() : number(r, 16),
                };
            case "trim":
            case "expand":
                return new int[] {number(r, m.targets.size()), number(r, m.configurations.size())};
            case "pair":
                return new int[] {number(r, m.pairs.size()), number(r, 3)};
            default:
                return new int[0];
        }
    }

    private static int one(boolean answer) {
        return answer ? 1 : 0;
    }

    private static int call(SelectConfig x, String name, int[] a) {
        switch (name) {
            case "setting": return x.setting(a[0], a[1]);
            case "alias": return x.alias(a[0]);
            case "base": return x.base(a[0]);
            case "platform": return x.platform();
            case "has": return one(x.has(a[0], a[1], a[2]));
            case "condition": return x.condition();
            case "asks": return one(x.asks(a[0], a[1] == 1, a[2], a[3]));
            case "target": return x.target();
            case "wants": return one(x.wants(a[0], a[1]));
            case "select": return x.select(a[0]);
            case "branch": return one(x.branch(a[0], a[1], a[2] == 1, a[3]));
            case "otherwise": return one(x.otherwise(a[0], a[1]));
            case "configuration": return x.configuration(a[0]);
            case "set": return x.set(a[0], a[1], a[2]);
            case "value": return x.value(a[0], a[1]);
            case "holds": return one(x.holds(a[0], a[1]));
            case "choose": return x.choose(a[0], a[1]);
            case "chosen": return x.chosen(a[0]);
            case "need": return x.need(a[0], a[1]);
            case "change": return one(x.change(a[0], a[1], a[2]));
            case "reads": return x.reads(a[0]);
            case "trim": return x.trim(a[0], a[1]);
            case "expand": return x.expand(a[0], a[1]);
            case "pair": return x.pair(a[0], a[1]);
            default: throw new IllegalArgumentException(name);
        }
    }

    private record Asking(boolean axis, int which, int value) { }

    private record Branch(int condition, boolean nested, int value) { }

    private record Change(int setting, Set<Integer> values) { }

    private record Choice(int kind, int first, int second) {
        boolean isLike(Choice other) {
            return kind == other.kind && (kind != 1 || first == other.first);
        }
    }

    private record Pair(int target, int configuration) { }

    /** Nothing but VALUES that were told to differ from the FALLBACK are held: the rest is looked up. */
    private record Configuration(int platform, Map<Integer, Integer> told) { }

    private static final class Setting {
        int values;
        int fallback;
        int other = -1;
    }

    private static final class Condition {
        final Set<Asking> askings = new HashSet<>();
        boolean used;
    }

    private static final class Select {
        int target;
        final List<Branch> branches = new ArrayList<>();
        Integer otherwise;
    }

    private static final class Target {
        int wanted = -1;
    }

    private static final class Need {
        int target;
        int other;
        final List<Change> changes = new ArrayList<>();
    }

    private static final class TooMany extends RuntimeException {
        private static final long serialVersionUID = 1L;
    }

    private static final class Model {
        final List<Setting> settings = new ArrayList<>();
        final List<Map<Integer, Integer>> platforms = new ArrayList<>();
        final List<Configuration> configurations = new ArrayList<>();
        final List<Condition> conditions = new ArrayList<>();
        final List<Target> targets = new ArrayList<>();
        final List<Select> selects = new ArrayList<>();
        final List<Need> needs = new ArrayList<>();
        List<Pair> pairs = new ArrayList<>();
        Map<Pair, Integer> leftOut = new LinkedHashMap<>();
        Choice latest = new Choice(0, -1, -1);

        int call(String name, int[] a) {
            switch (name) {
                case "setting": return setting(a[0], a[1]);
                case "alias": return alias(a[0]);
                case "base": return base(a[0]);
                case "platform": return platforms.size() == 8 ? -1 : added(platforms, new TreeMap<>());
                case "has": return one(has(a[0], a[1], a[2]));
                case "condition": return conditions.size() == 40 ? -1 : added(conditions, new Condition());
                case "asks": return one(asks(a[0], a[1] == 1, a[2], a[3]));
                case "target": return targets.size() == 16 ? -1 : added(targets, new Target());
                case "wants": return one(wants(a[0], a[1]));
                case "select": return select(a[0]);
                case "branch": return one(branch(a[0], new Branch(a[1], a[2] == 1, a[3])));
                case "otherwise": return one(otherwise(a[0], a[1]));
                case "configuration": return isIn(a[0], platforms) ? answer(new Configuration(a[0], Map.of())) : -1;
                case "set": return set(a[0], a[1], a[2]);
                case "value": return isIn(a[0], configurations) && base(a[1]) != -1
                    ? valueIn(configurations.get(a[0]), base(a[1])) : -1;
                case "holds": return one(isIn(a[0], conditions) && isIn(a[1], configurations)
                    && holds(conditions.get(a[0]), configurations.get(a[1])));
                case "choose": return choose(a[0], a[1]);
                case "chosen": return chosen(a[0]);
                case "need": return need(a[0], a[1]);
                case "change": return one(change(a[0], a[1], a[2]));
                case "reads": return isIn(a[0], targets) ? reads(a[0]).stream().mapToInt(s -> 1 << s).sum() : 0;
                case "trim": return isIn(a[0], targets) && isIn(a[1], configurations)
                    ? answer(trimmed(a[0], configurations.get(a[1]))) : -1;
                case "expand": return expand(a[0], a[1]);
                case "pair": return pair(a[0], a[1]);
                default: throw new IllegalArgumentException(name);
            }
        }

        static boolean isIn(int number, List<?> list) {
            return number >= 0 && number < list.size();
        }

        static <T> int added(List<T> list, T one) {
            list.add(one);
            return list.size() - 1;
        }

        int setting(int values, int fallback) {
            if (settings.size() == 16 || values < 1 || values > 8 || fallback < 0 || fallback >= values) {
                return -1;
            }
            Setting setting = new Setting();
            setting.values = values;
            setting.fallback = fallback;
            return added(settings, setting);
        }

        int alias(int other) {
            if (settings.size() == 16 || other < 0 || other > 15) {
                return -1;
            }
            Setting setting = new Setting();
            setting.other = other;
            return added(settings, setting);
        }

        int base(int setting) {
            Set<Integer> passed = new HashSet<>();
            int at = setting;
            while (isIn(at, settings) && passed.add(at)) {
                if (settings.get(at).other == -1) {
                    return at;
                }
                at = settings.get(at).other;
            }
            return -1;
        }

        boolean has(int platform, int axis, int value) {
            if (!isIn(platform, platforms) || axis < 0 || axis > 7 || value < -1 || value > 7) {
                return false;
            }
            if (configurations.stream().anyMatch(c -> c.platform() == platform)) {
                return false;
            }
            platforms.get(platform).remove(axis);
            if (value != -1) {
                platforms.get(platform).put(axis, value);
            }
            return true;
        }

        boolean asks(int number, boolean axis, int which, int value) {
            if (!isIn(number, conditions) || value < 0 || value > 7) {
                return false;
            }
            if (axis ? which < 0 || which > 7 : !isIn(which, settings)) {
                return false;
            }
            Condition condition = conditions.get(number);
            return !condition.used && condition.askings.size() < 6
                && condition.askings.add(new Asking(axis, which, value));
        }

        boolean wants(int target, int condition) {
            if (!isIn(target, targets) || !isIn(condition, conditions)) {
                return false;
            }
            targets.get(target).wanted = condition;
            conditions.get(condition).used = true;
            return true;
        }

        int select(int target) {
            if (!isIn(target, targets) || selects.size() == 24) {
                return -1;
            }
            Select select = new Select();
            select.target = target;
            return added(selects, select);
        }

        boolean hasWithin(Select select) {
            return select.branches.stream().anyMatch(Branch::nested);
        }

        boolean isWithin(int number) {
            return selects.stream().anyMatch(s -> s.branches.stream().anyMatch(b -> b.nested() && b.value() == number));
        }

        boolean branch(int number, Branch branch) {
            if (!isIn(number, selects) || !isIn(branch.condition(), conditions)) {
                return false;
            }
            Select select = selects.get(number);
            if (select.branches.size() == 8) {
                return false;
            }
            if (branch.nested()) {
                int inner = branch.value();
                if (!isIn(inner, selects) || inner >= number || selects.get(inner).target != select.target
                    || hasWithin(selects.get(inner)) || isWithin(number)) {
                    return false;
                }
            }
            select.branches.add(branch);
            conditions.get(branch.condition()).used = true;
            return true;
        }

        boolean otherwise(int select, int value) {
            if (!isIn(select, selects)) {
                return false;
            }
            selects.get(select).otherwise = value;
            return true;
        }

        int valueIn(Configuration configuration, int base) {
            return configuration.told().getOrDefault(base, settings.get(base).fallback);
        }

        Configuration with(Configuration old, int base, int value) {
            Map<Integer, Integer> told = new TreeMap<>(old.told());
            told.remove(base);
            if (value != settings.get(base).fallback) {
                told.put(base, value);
            }
            return new Configuration(old.platform(), told);
        }

        int numberOf(Configuration configuration) {
            int number = configurations.indexOf(configuration);
            if (number >= 0) {
                return number;
            }
            if (configurations.size() == 60) {
                throw new TooMany();
            }
            return added(configurations, configuration);
        }

        int answer(Configuration configuration) {
            try {
                return numberOf(configuration);
            } catch (TooMany tooMany) {
                return -1;
            }
        }

        int set(int configuration, int setting, int value) {
            int base = base(setting);
            if (!isIn(configuration, configurations) || base == -1 || value < 0 || value >= settings.get(base).values) {
                return -1;
            }
            return answer(with(configurations.get(configuration), base, value));
        }

        boolean holds(Condition condition, Configuration configuration) {
            return condition.askings.stream().allMatch(asking -> {
                if (asking.axis()) {
                    Integer value = platforms.get(configuration.platform()).get(asking.which());
                    return value != null && value == asking.value();
                }
                int base = base(asking.which());
                return base != -1 && valueIn(configuration, base) == asking.value();
            });
        }

        Set<Asking> byBases(Condition condition) {
            Set<Asking> askings = new HashSet<>();
            for (Asking asking : condition.askings) {
                boolean based = !asking.axis() && base(asking.which()) != -1;
                askings.add(based ? new Asking(false, base(asking.which()), asking.value()) : asking);
            }
            return askings;
        }

        boolean isMoreSpecial(int one, int other) {
            Set<Asking> its = byBases(conditions.get(one));
            Set<Asking> others = byBases(conditions.get(other));
            return its.containsAll(others) && its.size() > others.size();
        }

        Choice choosing(Select select, Configuration configuration) {
            List<Branch> holding = new ArrayList<>(select.branches);
            holding.removeIf(b -> !holds(conditions.get(b.condition()), configuration));
            Map<Integer, Choice> given = new TreeMap<>();
            for (int i = 0; i < select.branches.size(); i++) {
                Branch branch = select.branches.get(i);
                if (holds(conditions.get(branch.condition()), configuration)
                    && holding.stream().noneMatch(b -> isMoreSpecial(b.condition(), branch.condition()))) {
                    given.put(i, branch.nested() ? choosing(selects.get(branch.value()), configuration)
                        : new Choice(1, branch.value(), -1));
                }
            }
            if (given.isEmpty()) {
                return select.otherwise == null ? new Choice(0, -1, -1) : new Choice(1, select.otherwise, -1);
            }
            List<Integer> places = new ArrayList<>(given.keySet());
            Choice first = given.get(places.get(0));
            return places.stream().filter(i -> !first.isLike(given.get(i))).findFirst()
                .map(i -> new Choice(2, places.get(0), i)).orElse(first);
        }

        int choose(int select, int configuration) {
            if (!isIn(select, selects) || !isIn(configuration, configurations)) {
                return -1;
            }
            latest = choosing(selects.get(select), configurations.get(configuration));
            return latest.kind();
        }

        int chosen(int side) {
            return side == 0 ? latest.first() : side == 1 ? latest.second() : -1;
        }

        int need(int target, int other) {
            if (!isIn(target, targets) || !isIn(other, targets) || needs.size() == 40) {
                return -1;
            }
            Need need = new Need();
            need.target = target;
            need.other = other;
            return added(needs, need);
        }

        boolean change(int need, int setting, int values) {
            Set<Integer> bits = new HashSet<>();
            for (int value = 0; value < 8; value++) {
                if ((values & 1 << value) != 0) {
                    bits.add(value);
                }
            }
            if (!isIn(need, needs) || !isIn(setting, settings) || bits.isEmpty() || needs.get(need).changes.size() == 2) {
                return false;
            }
            needs.get(need).changes.add(new Change(setting, bits));
            return true;
        }

        Set<Integer> reads(int target) {
            Set<Integer> reached = new HashSet<>();
            reach(target, reached);
            Set<Integer> asking = new HashSet<>();
            reached.stream().map(t -> targets.get(t).wanted).filter(c -> c != -1).forEach(asking::add);
            selects.stream().filter(s -> reached.contains(s.target))
                .forEach(s -> s.branches.forEach(b -> asking.add(b.condition())));
            Set<Integer> bases = new HashSet<>();
            for (int condition : asking) {
                conditions.get(condition).askings.stream().filter(a -> !a.axis()).forEach(a -> bases.add(base(a.which())));
            }
            bases.remove(-1);
            return bases;
        }

        void reach(int target, Set<Integer> reached) {
            if (reached.add(target)) {
                needs.stream().filter(n -> n.target == target).forEach(n -> reach(n.other, reached));
            }
        }

        Configuration trimmed(int target, Configuration configuration) {
            Map<Integer, Integer> told = new TreeMap<>(configuration.told());
            told.keySet().retainAll(reads(target));
            return new Configuration(configuration.platform(), told);
        }

        List<Configuration> after(Change change, List<Configuration> before) {
            int base = base(change.setting());
            if (base == -1) {
                return before;
            }
            List<Configuration> made = new ArrayList<>();
            for (Configuration configuration : before) {
                for (int value = 0; value < settings.get(base).values; value++) {
                    if (change.values().contains(value)) {
                        made.add(with(configuration, base, value));
                    }
                }
            }
            return made;
        }

        int expand(int target, int configuration) {
            if (!isIn(target, targets) || !isIn(configuration, configurations)) {
                return -1;
            }
            pairs = new ArrayList<>();
            leftOut = new LinkedHashMap<>();
            Map<Pair, Set<Pair>> leads = new LinkedHashMap<>();
            try {
                addPair(new Pair(target, numberOf(trimmed(target, configurations.get(configuration)))));
                for (int i = 0; i < pairs.size(); i++) {
                    leads.put(pairs.get(i), follow(pairs.get(i)));
                }
            } catch (TooMany tooMany) {
                pairs = new ArrayList<>();
                return -2;
            }
            for (Pair pair : pairs) {
                leftOut.put(pair, isUnwanted(pair) ? 1 : leadsToUnwanted(pair, leads, new HashSet<>()) ? 2 : 0);
            }
            return pairs.size();
        }

        void addPair(Pair pair) {
            if (!pairs.contains(pair)) {
                pairs.add(pair);
                if (pairs.size() > 60) {
                    throw new TooMany();
                }
            }
        }

        Set<Pair> follow(Pair pair) {
            Set<Pair> reached = new HashSet<>();
            for (Need need : needs) {
                if (need.target == pair.target()) {
                    List<Configuration> made = List.of(configurations.get(pair.configuration()));
                    for (Change change : need.changes) {
                        made = after(change, made);
                    }
                    for (Configuration configuration : made) {
                        Pair next = new Pair(need.other, numberOf(trimmed(need.other, configuration)));
                        addPair(next);
                        reached.add(next);
                    }
                }
            }
            return reached;
        }

        boolean isUnwanted(Pair pair) {
            int wanted = targets.get(pair.target()).wanted;
            return wanted != -1 && !holds(conditions.get(wanted), configurations.get(pair.configuration()));
        }

        boolean leadsToUnwanted(Pair pair, Map<Pair, Set<Pair>> leads, Set<Pair> passed) {
            if (!passed.add(pair)) {
                return false;
            }
            return isUnwanted(pair) || leads.get(pair).stream().anyMatch(next -> leadsToUnwanted(next, leads, passed));
        }

        int pair(int i, int what) {
            if (!isIn(i, pairs)) {
                return -1;
            }
            Pair pair = pairs.get(i);
            return what == 0 ? pair.target() : what == 1 ? pair.configuration() : what == 2 ? leftOut.get(pair) : -1;
        }
    }
}
