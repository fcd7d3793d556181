/**
 * Configurations of a build: settings and platforms, conditions, choices of values by the most
 * special condition, needs that change the configuration on the way, and the pairs of target and
 * configuration that a target leads to. Words in capital letters are the document's terms.
 */
public final class SelectConfig {
    public static final int NONE = -1;

    private static final int MAX_SETTINGS = 16;
    private static final int MAX_VALUES = 8;
    private static final int MAX_AXES = 8;
    private static final int MAX_PLATFORMS = 8;
    private static final int MAX_CONFIGURATIONS = 60;
    private static final int MAX_CONDITIONS = 40;
    private static final int MAX_ASKINGS = 6;
    private static final int MAX_SELECTS = 24;
    private static final int MAX_BRANCHES = 8;
    private static final int MAX_NESTING = 1;
    private static final int MAX_TARGETS = 16;
    private static final int MAX_NEEDS = 40;
    private static final int MAX_CHANGES = 2;
    private static final int MAX_PAIRS = 60;

    private static final int ALL_SETTINGS = (1 << MAX_SETTINGS) - 1;
    private static final int ALL_VALUES = (1 << MAX_VALUES) - 1;

    private static final int NOTHING = 0;
    private static final int VALUE = 1;
    private static final int CLASH = 2;

    private static final int KEPT = 0;
    private static final int LEFT_OUT_BY_WANT = 1;
    private static final int LEFT_OUT_BY_NEED = 2;

    private static final int TOO_MANY = -2;

    private final Settings settings;
    private final Platforms platforms;
    private final Configurations configurations;
    private final Conditions conditions;
    private final Targets targets;
    private final Selects selects;
    private final Needs needs;
    private final Pairs pairs;
    private long latestChoice;

    public SelectConfig() {
        settings = new Settings();
        platforms = new Platforms();
        configurations = new Configurations();
        conditions = new Conditions();
        targets = new Targets();
        selects = new Selects();
        needs = new Needs();
        pairs = new Pairs();
        latestChoice = Choices.nothing();
    }

    public int setting(int values, int fallback) {
        if (values < 1 || values > MAX_VALUES || fallback < 0 || fallback >= values) {
            return NONE;
        }
        int number = settings.add(values, fallback, NONE);
        if (number != NONE) {
            configurations.giveAll(number, fallback);
        }
        return number;
    }

    public int alias(int other) {
        if (other < 0 || other >= MAX_SETTINGS) {
            return NONE;
        }
        return settings.add(0, 0, other);
    }

    public int base(int setting) {
        return settings.baseOf(setting);
    }

    public int platform() {
        return platforms.add();
    }

    public boolean has(int platform, int axis, int value) {
        if (!platforms.isThere(platform) || !isAxis(axis)) {
            return false;
        }
        if ((value != NONE && !isValue(value)) || configurations.anyOn(platform)) {
            return false;
        }
        platforms.put(platform, axis, value);
        return true;
    }

    public int condition() {
        return conditions.add();
    }

    public boolean asks(int condition, boolean axis, int which, int value) {
        if (!conditions.isThere(condition) || !isValue(value)) {
            return false;
        }
        if (axis ? !isAxis(which) : !settings.isThere(which)) {
            return false;
        }
        return conditions.addAsking(condition, Askings.codeOf(axis, which, value));
    }

    public int target() {
        return targets.add();
    }

    public boolean wants(int target, int condition) {
        if (!targets.isThere(target) || !conditions.isThere(condition)) {
            return false;
        }
        targets.wanted[target] = condition;
        conditions.used[condition] = true;
        return true;
    }

    public int select(int target) {
        return targets.isThere(target) ? selects.add(target) : NONE;
    }

    public boolean branch(int select, int condition, boolean nested, int value) {
        if (!selects.isThere(select) || !conditions.isThere(condition)) {
            return false;
        }
        if (nested && !selects.mayNest(select, value)) {
            return false;
        }
        if (!selects.addBranch(select, condition, nested, value)) {
            return false;
        }
        conditions.used[condition] = true;
        return true;
    }

    public boolean otherwise(int select, int value) {
        if (!selects.isThere(select)) {
            return false;
        }
        selects.otherwise[select] = Choices.ofValue(value);
        return true;
    }

    public int configuration(int platform) {
        if (!platforms.isThere(platform)) {
            return NONE;
        }
        return configurations.numberOf(trimmed(Codes.onPlatform(platform), 0));
    }

    public int set(int configuration, int setting, int value) {
        int base = settings.baseOf(setting);
        if (!configurations.isThere(configuration) || base == NONE) {
            return NONE;
        }
        if (value < 0 || value >= settings.values[base]) {
            return NONE;
        }
        long code = configurations.codes[configuration];
        return configurations.numberOf(Codes.withValue(code, base, value));
    }

    public int value(int configuration, int setting) {
        int base = settings.baseOf(setting);
        if (!configurations.isThere(configuration) || base == NONE) {
            return NONE;
        }
        return Codes.valueIn(configurations.codes[configuration], base);
    }

    public boolean holds(int condition, int configuration) {
        if (!conditions.isThere(condition) || !configurations.isThere(configuration)) {
            return false;
        }
        return isMet(condition, configurations.codes[configuration]);
    }

    public int choose(int select, int configuration) {
        if (!selects.isThere(select) || !configurations.isThere(configuration)) {
            return NONE;
        }
        latestChoice = choosing(select, configurations.codes[configuration], 0);
        return Choices.kindOf(latestChoice);
    }

    public int chosen(int side) {
        int kind = Choices.kindOf(latestChoice);
        if (kind == VALUE && side == 0) {
            return Choices.valueOf(latestChoice);
        }
        if (kind == CLASH && side == 0) {
            return Choices.firstOf(latestChoice);
        }
        if (kind == CLASH && side == 1) {
            return Choices.secondOf(latestChoice);
        }
        return NONE;
    }

    public int need(int target, int other) {
        if (!targets.isThere(target) || !targets.isThere(other)) {
            return NONE;
        }
        return needs.add(target, other);
    }

    public boolean change(int need, int setting, int values) {
        int bits = values & ALL_VALUES;
        if (!needs.isThere(need) || !settings.isThere(setting) || bits == 0) {
            return false;
        }
        return needs.addChange(need, setting, bits);
    }

    public int reads(int target) {
        if (!targets.isThere(target)) {
            return 0;
        }
        findWhatTargetsRead();
        return targets.read[target];
    }

    public int trim(int target, int configuration) {
        if (!targets.isThere(target) || !configurations.isThere(configuration)) {
            return NONE;
        }
        findWhatTargetsRead();
        long code = configurations.codes[configuration];
        return configurations.numberOf(trimmed(code, targets.read[target]));
    }

    public int expand(int target, int configuration) {
        if (!targets.isThere(target) || !configurations.isThere(configuration)) {
            return NONE;
        }
        findWhatTargetsRead();
        pairs.clear();
        if (!findPairs(target, configurations.codes[configuration])) {
            pairs.clear();
            return TOO_MANY;
        }
        leaveOutByWants();
        pairs.leaveOutByNeeds();
        return pairs.count;
    }

    public int pair(int i, int what) {
        if (!pairs.isThere(i)) {
            return NONE;
        }
        switch (what) {
            case 0:
                return pairs.target[i];
            case 1:
                return pairs.configuration[i];
            case 2:
                return pairs.leftOut[i];
            default:
                return NONE;
        }
    }

    private static boolean isAxis(int axis) {
        return axis >= 0 && axis < MAX_AXES;
    }

    private static boolean isValue(int value) {
        return value >= 0 && value < MAX_VALUES;
    }

    private static boolean hasBit(int bits, int bit) {
        return ((bits >>> bit) & 1) != 0;
    }

    private boolean isMet(int condition, long code) {
        for (int i = 0; i < conditions.askingCount[condition]; i++) {
            if (!isAskingMet(conditions.askingAt(condition, i), code)) {
                return false;
            }
        }
        return true;
    }

    private boolean isAskingMet(int asking, long code) {
        int which = Askings.whichOf(asking);
        int value = Askings.valueOf(asking);
        if (Askings.isAboutAxis(asking)) {
            return platforms.valueAt(Codes.platformIn(code), which) == value;
        }
        int base = settings.baseOf(which);
        return base != NONE && Codes.valueIn(code, base) == value;
    }

    /** What a CONDITION asks about: a bit for each BASE, and above these a bit for each AXIS. */
    private int askedBy(int condition) {
        int asked = 0;
        for (int i = 0; i < conditions.askingCount[condition]; i++) {
            int asking = conditions.askingAt(condition, i);
            int which = Askings.whichOf(asking);
            if (Askings.isAboutAxis(asking)) {
                asked |= 1 << (MAX_SETTINGS + which);
            } else {
                int base = settings.baseOf(which);
                asked |= base == NONE ? 0 : 1 << base;
            }
        }
        return asked;
    }

    private long choosing(int select, long code, int depth) {
        int best = mostSpecialBranches(select, holdingBranches(select, code));
        if (best == 0) {
            return selects.otherwise[select];
        }
        int first = NONE;
        long given = Choices.nothing();
        for (int branch = 0; branch < selects.branchCount[select]; branch++) {
            if (!hasBit(best, branch)) {
                continue;
            }
            long gives = givenBy(Selects.place(select, branch), code, depth);
            if (first == NONE) {
                first = branch;
                given = gives;
            } else if (!Choices.areAlike(given, gives)) {
                return Choices.ofClash(first, branch);
            }
        }
        return given;
    }

    private long givenBy(int place, long code, int depth) {
        if (!selects.branchNested[place]) {
            return Choices.ofValue(selects.branchValue[place]);
        }
        // mayNest lets no SELECT go deeper, so this answer is never asked for.
        if (depth >= MAX_NESTING) {
            return Choices.nothing();
        }
        return choosing(selects.branchValue[place], code, depth + 1);
    }

    private int holdingBranches(int select, long code) {
        int holding = 0;
        for (int branch = 0; branch < selects.branchCount[select]; branch++) {
            if (isMet(selects.conditionAt(select, branch), code)) {
                holding |= 1 << branch;
            }
        }
        return holding;
    }

    private int mostSpecialBranches(int select, int holding) {
        int best = 0;
        for (int branch = 0; branch < selects.branchCount[select]; branch++) {
            if (hasBit(holding, branch) && !isOutdone(select, branch, holding)) {
                best |= 1 << branch;
            }
        }
        return best;
    }

    /**
     * Whether one of the BRANCHES that hold is MORE SPECIAL than this one. CONDITIONS that HOLD in
     * one CONFIGURATION ask for the same VALUE of all that both ask about, and for nothing without
     * a BASE; so what they ask about is enough to compare them.
     */
    private boolean isOutdone(int select, int branch, int holding) {
        int asked = askedBy(selects.conditionAt(select, branch));
        for (int other = 0; other < selects.branchCount[select]; other++) {
            if (hasBit(holding, other)) {
                int more = askedBy(selects.conditionAt(select, other));
                if (more != asked && (more & asked) == asked) {
                    return true;
                }
            }
        }
        return false;
    }

    /** All TARGETS at once, as each one READS what others READ. */
    private void findWhatTargetsRead() {
        for (int target = 0; target < targets.count; target++) {
            int condition = targets.wanted[target];
            targets.read[target] = condition == NONE ? 0 : askedBy(condition) & ALL_SETTINGS;
        }
        for (int select = 0; select < selects.count; select++) {
            for (int branch = 0; branch < selects.branchCount[select]; branch++) {
                int asked = askedBy(selects.conditionAt(select, branch));
                targets.read[selects.target[select]] |= asked & ALL_SETTINGS;
            }
        }
        // The longest way from a TARGET to what it needs has fewer steps than there are TARGETS.
        for (int step = 0; step < MAX_TARGETS; step++) {
            for (int need = 0; need < needs.count; need++) {
                targets.read[needs.target[need]] |= targets.read[needs.other[need]];
            }
        }
    }

    private long trimmed(long code, int read) {
        long result = code;
        for (int setting = 0; setting < settings.count; setting++) {
            if (!hasBit(read, setting)) {
                result = Codes.withValue(result, setting, settings.fallback[setting]);
            }
        }
        return result;
    }

    /** False if there would be too many PAIRS or CONFIGURATIONS. */
    private boolean findPairs(int target, long code) {
        if (pairOf(target, code) == NONE) {
            return false;
        }
        for (int i = 0; i < MAX_PAIRS && i < pairs.count; i++) {
            for (int need = 0; need < needs.count; need++) {
                if (needs.target[need] == pairs.target[i] && !followNeed(i, need)) {
                    return false;
                }
            }
        }
        return true;
    }

    private boolean followNeed(int i, int need) {
        long code = configurations.codes[pairs.configuration[i]];
        int firstBase = changedBase(need, 0);
        int secondBase = changedBase(need, 1);
        int firstValues = turnsOf(need, 0, firstBase);
        int secondValues = turnsOf(need, 1, secondBase);
        for (int first = 0; first < MAX_VALUES; first++) {
            if (!hasBit(firstValues, first)) {
                continue;
            }
            long halfway = afterChange(code, firstBase, first);
            for (int second = 0; second < MAX_VALUES; second++) {
                if (!hasBit(secondValues, second)) {
                    continue;
                }
                int reached = pairOf(needs.other[need], afterChange(halfway, secondBase, second));
                if (reached == NONE) {
                    return false;
                }
                pairs.leadsTo[i] |= 1L << reached;
            }
        }
        return true;
    }

    private int changedBase(int need, int i) {
        return i < needs.changeCount[need] ? settings.baseOf(needs.settingAt(need, i)) : NONE;
    }

    /** The VALUES that a CHANGE goes through; one that does nothing has a single turn. */
    private int turnsOf(int need, int i, int base) {
        if (base == NONE) {
            return 1;
        }
        return needs.valuesAt(need, i) & ((1 << settings.values[base]) - 1);
    }

    private static long afterChange(long code, int base, int value) {
        return base == NONE ? code : Codes.withValue(code, base, value);
    }

    /** Only the TRIMMED CONFIGURATION gets a number, not the one that it was trimmed from. */
    private int pairOf(int target, long code) {
        int configuration = configurations.numberOf(trimmed(code, targets.read[target]));
        return configuration == NONE ? NONE : pairs.numberOf(target, configuration);
    }

    private void leaveOutByWants() {
        for (int i = 0; i < pairs.count; i++) {
            int condition = targets.wanted[pairs.target[i]];
            long code = configurations.codes[pairs.configuration[i]];
            if (condition != NONE && !isMet(condition, code)) {
                pairs.leftOut[i] = LEFT_OUT_BY_WANT;
            }
        }
    }

    private static final class Settings {
        int count;
        /** How many VALUES; an ALIAS has none of its own. */
        final int[] values = new int[MAX_SETTINGS];
        final int[] fallback = new int[MAX_SETTINGS];
        /** Whose ALIAS it is; NONE if it is no ALIAS. */
        final int[] other = new int[MAX_SETTINGS];

        boolean isThere(int setting) {
            return setting >= 0 && setting < count;
        }

        int add(int newValues, int newFallback, int newOther) {
            if (count >= MAX_SETTINGS) {
                return NONE;
            }
            values[count] = newValues;
            fallback[count] = newFallback;
            other[count] = newOther;
            return count++;
        }

        int baseOf(int setting) {
            int at = setting;
            for (int step = 0; step < MAX_SETTINGS; step++) {
                if (!isThere(at)) {
                    return NONE;
                }
                if (other[at] == NONE) {
                    return at;
                }
                at = other[at];
            }
            return NONE;
        }
    }

    private static final class Platforms {
        int count;
        final int[] axisValue = new int[MAX_PLATFORMS * MAX_AXES];

        boolean isThere(int platform) {
            return platform >= 0 && platform < count;
        }

        int add() {
            if (count >= MAX_PLATFORMS) {
                return NONE;
            }
            for (int axis = 0; axis < MAX_AXES; axis++) {
                put(count, axis, NONE);
            }
            return count++;
        }

        void put(int platform, int axis, int value) {
            axisValue[platform * MAX_AXES + axis] = value;
        }

        int valueAt(int platform, int axis) {
            return axisValue[platform * MAX_AXES + axis];
        }
    }

    /**
     * A CONFIGURATION in one long, so that like ones are equal and none needs a row of its own:
     * three bits for each SETTING's VALUE (0 for an ALIAS), and the PLATFORM above them.
     */
    private static final class Codes {
        static final int VALUE_BITS = 3;
        static final long VALUE_MASK = 7L;
        static final int PLATFORM_SHIFT = MAX_SETTINGS * VALUE_BITS;

        static long onPlatform(int platform) {
            return (long) platform << PLATFORM_SHIFT;
        }

        static int platformIn(long code) {
            return (int) (code >>> PLATFORM_SHIFT);
        }

        static int valueIn(long code, int setting) {
            return (int) ((code >>> (setting * VALUE_BITS)) & VALUE_MASK);
        }

        static long withValue(long code, int setting, int value) {
            int shift = setting * VALUE_BITS;
            return (code & ~(VALUE_MASK << shift)) | ((long) value << shift);
        }
    }

    private static final class Configurations {
        int count;
        final long[] codes = new long[MAX_CONFIGURATIONS];

        boolean isThere(int configuration) {
            return configuration >= 0 && configuration < count;
        }

        /** The number of the one that is there, or else of a new one; NONE if that is one too many. */
        int numberOf(long code) {
            for (int i = 0; i < count; i++) {
                if (codes[i] == code) {
                    return i;
                }
            }
            if (count >= MAX_CONFIGURATIONS) {
                return NONE;
            }
            codes[count] = code;
            return count++;
        }

        boolean anyOn(int platform) {
            for (int i = 0; i < count; i++) {
                if (Codes.platformIn(codes[i]) == platform) {
                    return true;
                }
            }
            return false;
        }

        void giveAll(int setting, int value) {
            for (int i = 0; i < count; i++) {
                codes[i] = Codes.withValue(codes[i], setting, value);
            }
        }
    }

    /** An ASKING in one int: its VALUE, what it is about, and whether that is an AXIS. */
    private static final class Askings {
        static final int AXIS_FLAG = MAX_SETTINGS * MAX_VALUES;

        static int codeOf(boolean axis, int which, int value) {
            return (axis ? AXIS_FLAG : 0) + which * MAX_VALUES + value;
        }

        static boolean isAboutAxis(int asking) {
            return asking >= AXIS_FLAG;
        }

        static int whichOf(int asking) {
            return (isAboutAxis(asking) ? asking - AXIS_FLAG : asking) / MAX_VALUES;
        }

        static int valueOf(int asking) {
            return asking % MAX_VALUES;
        }
    }

    private static final class Conditions {
        int count;
        final int[] askingCount = new int[MAX_CONDITIONS];
        final int[] askings = new int[MAX_CONDITIONS * MAX_ASKINGS];
        /** Whether a SELECT or WANT has, or had, it. */
        final boolean[] used = new boolean[MAX_CONDITIONS];

        boolean isThere(int condition) {
            return condition >= 0 && condition < count;
        }

        int add() {
            return count >= MAX_CONDITIONS ? NONE : count++;
        }

        int askingAt(int condition, int i) {
            return askings[condition * MAX_ASKINGS + i];
        }

        boolean addAsking(int condition, int asking) {
            int there = askingCount[condition];
            if (used[condition] || there >= MAX_ASKINGS) {
                return false;
            }
            for (int i = 0; i < there; i++) {
                if (askingAt(condition, i) == asking) {
                    return false;
                }
            }
            askings[condition * MAX_ASKINGS + there] = asking;
            askingCount[condition] = there + 1;
            return true;
        }
    }

    private static final class Targets {
        int count;
        final int[] wanted = new int[MAX_TARGETS];
        /** What each one READS, as it was found last. */
        final int[] read = new int[MAX_TARGETS];

        boolean isThere(int target) {
            return target >= 0 && target < count;
        }

        int add() {
            if (count >= MAX_TARGETS) {
                return NONE;
            }
            wanted[count] = NONE;
            return count++;
        }
    }

    /** What CHOOSING gives, in one long: its kind above, a VALUE or the two BRANCHES below. */
    private static final class Choices {
        static final int KIND_SHIFT = 32;
        static final long LOW_HALF = 0xFFFFFFFFL;

        static long nothing() {
            return (long) NOTHING << KIND_SHIFT;
        }

        static long ofValue(int value) {
            return ((long) VALUE << KIND_SHIFT) | (value & LOW_HALF);
        }

        static long ofClash(int first, int second) {
            return ((long) CLASH << KIND_SHIFT) | (first * MAX_BRANCHES + second);
        }

        static int kindOf(long choice) {
            return (int) (choice >>> KIND_SHIFT);
        }

        static int valueOf(long choice) {
            return (int) choice;
        }

        static int firstOf(long choice) {
            return (int) choice / MAX_BRANCHES;
        }

        static int secondOf(long choice) {
            return (int) choice % MAX_BRANCHES;
        }

        /** A CLASH is like any other one, whichever BRANCHES clash. */
        static boolean areAlike(long one, long other) {
            return kindOf(one) == kindOf(other) && (kindOf(one) != VALUE || one == other);
        }
    }

    private static final class Selects {
        int count;
        final int[] target = new int[MAX_SELECTS];
        /** What CHOOSING gives where no BRANCH holds. */
        final long[] otherwise = new long[MAX_SELECTS];
        final boolean[] isWithin = new boolean[MAX_SELECTS];
        final boolean[] hasWithin = new boolean[MAX_SELECTS];
        final int[] branchCount = new int[MAX_SELECTS];
        final int[] branchCondition = new int[MAX_SELECTS * MAX_BRANCHES];
        final boolean[] branchNested = new boolean[MAX_SELECTS * MAX_BRANCHES];
        final int[] branchValue = new int[MAX_SELECTS * MAX_BRANCHES];

        static int place(int select, int branch) {
            return select * MAX_BRANCHES + branch;
        }

        boolean isThere(int select) {
            return select >= 0 && select < count;
        }

        int add(int newTarget) {
            if (count >= MAX_SELECTS) {
                return NONE;
            }
            target[count] = newTarget;
            otherwise[count] = Choices.nothing();
            return count++;
        }

        int conditionAt(int select, int branch) {
            return branchCondition[place(select, branch)];
        }

        boolean mayNest(int select, int inner) {
            return inner >= 0
                && inner < select
                && target[inner] == target[select]
                && !hasWithin[inner]
                && !isWithin[select];
        }

        boolean addBranch(int select, int condition, boolean nested, int value) {
            if (branchCount[select] >= MAX_BRANCHES) {
                return false;
            }
            int place = place(select, branchCount[select]);
            branchCondition[place] = condition;
            branchNested[place] = nested;
            branchValue[place] = value;
            branchCount[select]++;
            if (nested) {
                hasWithin[select] = true;
                isWithin[value] = true;
            }
            return true;
        }
    }

    private static final class Needs {
        int count;
        final int[] target = new int[MAX_NEEDS];
        final int[] other = new int[MAX_NEEDS];
        final int[] changeCount = new int[MAX_NEEDS];
        final int[] changeSetting = new int[MAX_NEEDS * MAX_CHANGES];
        final int[] changeValues = new int[MAX_NEEDS * MAX_CHANGES];

        boolean isThere(int need) {
            return need >= 0 && need < count;
        }

        int add(int newTarget, int newOther) {
            if (count >= MAX_NEEDS) {
                return NONE;
            }
            target[count] = newTarget;
            other[count] = newOther;
            return count++;
        }

        boolean addChange(int need, int setting, int values) {
            if (changeCount[need] >= MAX_CHANGES) {
                return false;
            }
            int place = need * MAX_CHANGES + changeCount[need];
            changeSetting[place] = setting;
            changeValues[place] = values;
            changeCount[need]++;
            return true;
        }

        int settingAt(int need, int i) {
            return changeSetting[need * MAX_CHANGES + i];
        }

        int valuesAt(int need, int i) {
            return changeValues[need * MAX_CHANGES + i];
        }
    }

    private static final class Pairs {
        int count;
        final int[] target = new int[MAX_PAIRS];
        final int[] configuration = new int[MAX_PAIRS];
        final int[] leftOut = new int[MAX_PAIRS];
        /** The PAIRS that its NEEDS lead to, a bit each. */
        final long[] leadsTo = new long[MAX_PAIRS];

        void clear() {
            count = 0;
        }

        boolean isThere(int i) {
            return i >= 0 && i < count;
        }

        /** The number of the one that is there, or else of a new one; NONE if that is one too many. */
        int numberOf(int itsTarget, int itsConfiguration) {
            for (int i = 0; i < count; i++) {
                if (target[i] == itsTarget && configuration[i] == itsConfiguration) {
                    return i;
                }
            }
            if (count >= MAX_PAIRS) {
                return NONE;
            }
            target[count] = itsTarget;
            configuration[count] = itsConfiguration;
            leftOut[count] = KEPT;
            leadsTo[count] = 0L;
            return count++;
        }

        /** Each round but the last leaves out at least one more, so MAX_PAIRS rounds are enough. */
        void leaveOutByNeeds() {
            for (int round = 0; round < MAX_PAIRS; round++) {
                long out = allLeftOut();
                for (int i = 0; i < count; i++) {
                    if (leftOut[i] == KEPT && (leadsTo[i] & out) != 0L) {
                        leftOut[i] = LEFT_OUT_BY_NEED;
                    }
                }
                if (allLeftOut() == out) {
                    return;
                }
            }
        }

        private long allLeftOut() {
            long out = 0L;
            for (int i = 0; i < count; i++) {
                if (leftOut[i] != KEPT) {
                    out |= 1L << i;
                }
            }
            return out;
        }
    }
}
