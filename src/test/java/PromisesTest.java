/** For each promise of the document: ordinary inputs, the edges that it names, and wrong inputs. */
public final class PromisesTest {
    private static final int NONE = SelectConfig.NONE;
    private static final int[] WRONG = {-1, -2, 99, Integer.MIN_VALUE, Integer.MAX_VALUE};
    private static int wrong = 0;
    private static int asked = 0;

    private static void due(String call, int got, int want) {
        asked++;
        if (got != want) {
            wrong++;
            System.out.println(call + " answered " + got + ", due is " + want);
        }
    }

    private static void due(String call, boolean got, boolean want) {
        due(call, got ? 1 : 0, want ? 1 : 0);
    }

    public static void main(String[] args) {
        newObject();
        setting();
        alias();
        base();
        platform();
        has();
        condition();
        asks();
        target();
        wants();
        select();
        branch();
        nestedBranch();
        otherwise();
        configuration();
        set();
        value();
        settingComesLater();
        holds();
        choose();
        chooseMostSpecial();
        chooseByBases();
        chooseNested();
        chooseNestedAlike();
        chosen();
        need();
        change();
        reads();
        trim();
        expand();
        expandOrder();
        expandChanges();
        expandOddChanges();
        expandTrims();
        expandTooMany();
        expandTooManyConfigurations();
        pair();
        leftOut();
        leftOutAfterAnother();
        allFull();
        System.out.println(asked + " answers, " + wrong + " not as due");
        if (wrong != 0) {
            System.exit(1);
        }
    }

    private static void newObject() {
        SelectConfig x = new SelectConfig();
        due("new: NONE", NONE, -1);
        due("new: base", x.base(0), NONE);
        due("new: has", x.has(0, 0, 0), false);
        due("new: asks", x.asks(0, true, 0, 0), false);
        due("new: wants", x.wants(0, 0), false);
        due("new: select", x.select(0), NONE);
        due("new: branch", x.branch(0, 0, false, 0), false);
        due("new: otherwise", x.otherwise(0, 0), false);
        due("new: configuration", x.configuration(0), NONE);
        due("new: set", x.set(0, 0, 0), NONE);
        due("new: value", x.value(0, 0), NONE);
        due("new: holds", x.holds(0, 0), false);
        due("new: choose", x.choose(0, 0), NONE);
        due("new: chosen 0", x.chosen(0), NONE);
        due("new: chosen 1", x.chosen(1), NONE);
        due("new: need", x.need(0, 0), NONE);
        due("new: change", x.change(0, 0, 1), false);
        due("new: reads", x.reads(0), 0);
        due("new: trim", x.trim(0, 0), NONE);
        due("new: expand", x.expand(0, 0), NONE);
        due("new: pair", x.pair(0, 0), NONE);
        SelectConfig y = new SelectConfig();
        due("new: first object's setting", x.setting(2, 0), 0);
        due("new: second object's setting", y.setting(2, 0), 0);
    }

    private static void setting() {
        SelectConfig x = new SelectConfig();
        due("setting: no values", x.setting(0, 0), NONE);
        due("setting: nine values", x.setting(9, 0), NONE);
        due("setting: values below 0", x.setting(-1, 0), NONE);
        due("setting: fallback below", x.setting(3, -1), NONE);
        due("setting: fallback above", x.setting(3, 3), NONE);
        due("setting: far values", x.setting(Integer.MIN_VALUE, Integer.MIN_VALUE), NONE);
        due("setting: far values above", x.setting(Integer.MAX_VALUE, 0), NONE);
        due("setting: one value", x.setting(1, 0), 0);
        due("setting: eight values", x.setting(8, 7), 1);
        for (int i = 2; i < 16; i++) {
            due("setting: number", x.setting(2, 1), i);
        }
        due("setting: 17th", x.setting(2, 1), NONE);
        due("setting: alias as 17th", x.alias(0), NONE);
    }

    private static void alias() {
        SelectConfig x = new SelectConfig();
        due("alias: -1", x.alias(-1), NONE);
        due("alias: 16", x.alias(16), NONE);
        due("alias: far", x.alias(Integer.MIN_VALUE), NONE);
        due("alias: 15", x.alias(15), 0);
        for (int i = 1; i < 16; i++) {
            due("alias: of the one before", x.alias(i - 1), i);
        }
        due("alias: 17th", x.alias(0), NONE);
        due("alias: setting as 17th", x.setting(1, 0), NONE);
    }

    private static void base() {
        SelectConfig x = new SelectConfig();
        x.alias(0);
        due("base: of an alias of itself", x.base(0), NONE);
        x.alias(2);
        due("base: not there yet", x.base(1), NONE);
        x.setting(2, 0);
        due("base: has come", x.base(1), 2);
        due("base: of itself", x.base(2), 2);
        x.alias(1);
        due("base: over two", x.base(3), 2);
        for (int i : WRONG) {
            due("base: " + i, x.base(i), NONE);
        }
        due("base: one too far", x.base(4), NONE);

        SelectConfig chain = new SelectConfig();
        for (int i = 0; i < 15; i++) {
            chain.alias(i + 1);
        }
        due("base: of a chain without end", chain.base(0), NONE);
        chain.setting(3, 1);
        due("base: of the longest chain", chain.base(0), 15);

        SelectConfig round = new SelectConfig();
        for (int i = 0; i < 16; i++) {
            round.alias((i + 1) % 16);
        }
        due("base: of the longest round", round.base(7), NONE);
    }

    private static void platform() {
        SelectConfig x = new SelectConfig();
        for (int i = 0; i < 8; i++) {
            due("platform: number", x.platform(), i);
        }
        due("platform: ninth", x.platform(), NONE);
    }

    private static void has() {
        SelectConfig x = new SelectConfig();
        x.platform();
        x.platform();
        due("has: ordinary", x.has(0, 0, 0), true);
        due("has: last axis and value", x.has(0, 7, 7), true);
        due("has: no value", x.has(0, 1, NONE), true);
        due("has: axis -1", x.has(0, -1, 0), false);
        due("has: axis 8", x.has(0, 8, 0), false);
        due("has: value -2", x.has(0, 0, -2), false);
        due("has: value 8", x.has(0, 0, 8), false);
        due("has: platform 2", x.has(2, 0, 0), false);
        for (int i : WRONG) {
            due("has: platform " + i, x.has(i, 0, 0), false);
            due("has: axis " + i, x.has(0, i, 0), false);
        }
        int asksTwo = x.condition();
        x.asks(asksTwo, true, 3, 2);
        due("has: first value", x.has(1, 3, 5), true);
        due("has: in its place", x.has(1, 3, 2), true);
        int configuration = x.configuration(1);
        due("has: it counts", x.holds(asksTwo, configuration), true);
        due("has: platform of a configuration", x.has(1, 3, 5), false);
        due("has: other axis of it", x.has(1, 4, 5), false);
        due("has: none, of it", x.has(1, 3, NONE), false);
        due("has: nothing came of it", x.holds(asksTwo, configuration), true);
        due("has: other platform still", x.has(0, 3, 2), true);
        due("has: other platform without", x.has(0, 3, NONE), true);
        due("has: it has none", x.holds(asksTwo, x.configuration(0)), false);
        int asksZero = x.condition();
        x.asks(asksZero, true, 0, 0);
        due("has: value 0 of axis 0", x.holds(asksZero, x.configuration(0)), true);
        due("has: a new platform has none", x.holds(asksZero, x.configuration(1)), false);
    }

    private static void condition() {
        SelectConfig x = new SelectConfig();
        for (int i = 0; i < 40; i++) {
            due("condition: number", x.condition(), i);
        }
        due("condition: 41st", x.condition(), NONE);
    }

    private static void asks() {
        SelectConfig x = new SelectConfig();
        x.setting(2, 0);
        x.alias(0);
        x.target();
        for (int i = 0; i < 5; i++) {
            x.condition();
        }
        due("asks: setting", x.asks(0, false, 0, 0), true);
        due("asks: it is there", x.asks(0, false, 0, 0), false);
        due("asks: alias of it", x.asks(0, false, 1, 0), true);
        due("asks: other value", x.asks(0, false, 0, 1), true);
        due("asks: value that it hasn't", x.asks(0, false, 0, 7), true);
        due("asks: axis of that number", x.asks(0, true, 0, 0), true);
        due("asks: axis is there", x.asks(0, true, 0, 0), false);
        due("asks: sixth", x.asks(0, true, 7, 7), true);
        due("asks: seventh", x.asks(0, true, 6, 6), false);
        due("asks: no such setting", x.asks(1, false, 2, 0), false);
        due("asks: no such axis", x.asks(1, true, 8, 0), false);
        due("asks: setting's value 8", x.asks(1, false, 0, 8), false);
        due("asks: setting's value -1", x.asks(1, false, 0, -1), false);
        due("asks: axis' value 8", x.asks(1, true, 0, 8), false);
        due("asks: axis' value -1", x.asks(1, true, 0, -1), false);
        due("asks: condition 5", x.asks(5, true, 0, 0), false);
        for (int i : WRONG) {
            due("asks: condition " + i, x.asks(i, true, 0, 0), false);
            due("asks: setting " + i, x.asks(1, false, i, 0), false);
            due("asks: axis " + i, x.asks(1, true, i, 0), false);
            due("asks: value " + i, x.asks(1, false, 0, i), false);
        }
        x.select(0);
        x.branch(0, 2, false, 0);
        due("asks: a select has it", x.asks(2, true, 0, 0), false);
        x.wants(0, 3);
        due("asks: a want has it", x.asks(3, true, 0, 0), false);
        x.wants(0, 2);
        due("asks: a want had it", x.asks(3, true, 0, 0), false);
        x.branch(9, 4, false, 0);
        x.branch(0, 4, true, 0);
        x.wants(9, 4);
        due("asks: nothing took it", x.asks(4, true, 0, 0), true);
    }

    private static void target() {
        SelectConfig x = new SelectConfig();
        for (int i = 0; i < 16; i++) {
            due("target: number", x.target(), i);
        }
        due("target: 17th", x.target(), NONE);
    }

    private static void wants() {
        SelectConfig x = new SelectConfig();
        x.setting(2, 0);
        x.setting(2, 0);
        x.target();
        x.condition();
        x.asks(0, false, 0, 1);
        x.condition();
        x.asks(1, false, 1, 0);
        for (int i : WRONG) {
            due("wants: target " + i, x.wants(i, 0), false);
            due("wants: condition " + i, x.wants(0, i), false);
        }
        due("wants: target 1", x.wants(1, 0), false);
        due("wants: condition 2", x.wants(0, 2), false);
        due("wants: nothing came of it", x.reads(0), 0);
        due("wants: ordinary", x.wants(0, 0), true);
        due("wants: it reads", x.reads(0), 1);
        x.platform();
        x.configuration(0);
        x.expand(0, 0);
        due("wants: does not hold", x.pair(0, 2), 1);
        due("wants: in its place", x.wants(0, 1), true);
        due("wants: reads the new one alone", x.reads(0), 2);
        x.expand(0, 0);
        due("wants: holds", x.pair(0, 2), 0);
    }

    private static void select() {
        SelectConfig x = new SelectConfig();
        x.target();
        for (int i : WRONG) {
            due("select: target " + i, x.select(i), NONE);
        }
        due("select: target 1", x.select(1), NONE);
        for (int i = 0; i < 24; i++) {
            due("select: number", x.select(0), i);
        }
        due("select: 25th", x.select(0), NONE);
    }

    private static void branch() {
        SelectConfig x = new SelectConfig();
        x.target();
        x.select(0);
        x.condition();
        for (int i : WRONG) {
            due("branch: select " + i, x.branch(i, 0, false, 0), false);
            due("branch: condition " + i, x.branch(0, i, false, 0), false);
        }
        due("branch: select 1", x.branch(1, 0, false, 0), false);
        due("branch: condition 1", x.branch(0, 1, false, 0), false);
        for (int i = 0; i < 8; i++) {
            due("branch: any value", x.branch(0, 0, false, Integer.MIN_VALUE), true);
        }
        due("branch: ninth", x.branch(0, 0, false, 0), false);
        x.platform();
        x.configuration(0);
        due("branch: refused ones are not there", x.choose(0, 0), 1);
        due("branch: value", x.chosen(0), Integer.MIN_VALUE);
    }

    private static void nestedBranch() {
        SelectConfig x = new SelectConfig();
        x.target();
        x.target();
        x.condition();
        for (int i = 0; i < 5; i++) {
            x.select(0);
        }
        x.select(1);
        for (int i : WRONG) {
            due("nested: select " + i, x.branch(1, 0, true, i), false);
        }
        due("nested: itself", x.branch(1, 0, true, 1), false);
        due("nested: a later one", x.branch(1, 0, true, 2), false);
        due("nested: one not there", x.branch(5, 0, true, 6), false);
        due("nested: of another target", x.branch(5, 0, true, 0), false);
        due("nested: ordinary", x.branch(1, 0, true, 0), true);
        due("nested: again", x.branch(1, 0, true, 0), true);
        due("nested: in a second one", x.branch(2, 0, true, 0), true);
        due("nested: one with one within", x.branch(3, 0, true, 1), false);
        due("nested: a plain one", x.branch(4, 0, true, 3), true);
        due("nested: into one that is within", x.branch(3, 0, true, 0), false);
        due("nested: a value into one that is within", x.branch(3, 0, false, 0), true);
        for (int i = 0; i < 7; i++) {
            x.branch(4, 0, true, 3);
        }
        due("nested: ninth", x.branch(4, 0, true, 3), false);
    }

    private static void otherwise() {
        SelectConfig x = new SelectConfig();
        x.target();
        x.select(0);
        x.select(0);
        x.platform();
        x.configuration(0);
        for (int i : WRONG) {
            due("otherwise: select " + i, x.otherwise(i, 0), false);
        }
        due("otherwise: select 2", x.otherwise(2, 0), false);
        due("otherwise: ordinary", x.otherwise(0, -1), true);
        due("otherwise: choose", x.choose(0, 0), 1);
        due("otherwise: chosen", x.chosen(0), -1);
        due("otherwise: in its place", x.otherwise(0, 6), true);
        x.choose(0, 0);
        due("otherwise: chosen in its place", x.chosen(0), 6);
        due("otherwise: other select has none", x.choose(1, 0), 0);
        x.condition();
        x.branch(0, 0, false, 9);
        x.choose(0, 0);
        due("otherwise: a branch holds", x.chosen(0), 9);
    }

    private static void configuration() {
        SelectConfig x = new SelectConfig();
        x.setting(8, 3);
        x.alias(0);
        x.setting(8, 5);
        x.platform();
        x.platform();
        for (int i : WRONG) {
            due("configuration: platform " + i, x.configuration(i), NONE);
        }
        due("configuration: platform 2", x.configuration(2), NONE);
        due("configuration: first", x.configuration(1), 0);
        due("configuration: other platform", x.configuration(0), 1);
        due("configuration: like ones are one", x.configuration(1), 0);
        due("configuration: fallback", x.value(0, 0), 3);
        due("configuration: last fallback", x.value(0, 2), 5);
        fill(x, 0, 2);
        due("configuration: there are 60, one of them", x.configuration(0), 1);
        x.platform();
        due("configuration: would be the 61st", x.configuration(2), NONE);
        due("configuration: 61st isn't there", x.value(60, 0), NONE);
    }

    /** Makes CONFIGURATIONS until there are 60, of one that has two SETTINGS of 8 VALUES. */
    private static void fill(SelectConfig x, int one, int other) {
        int last = 0;
        for (int i = 0; i < 64 && last != 59; i++) {
            last = Math.max(last, x.set(x.set(0, one, i / 8), other, i % 8));
        }
        due("fill: 60th", last, 59);
    }

    private static void set() {
        SelectConfig x = new SelectConfig();
        x.setting(8, 0);
        x.setting(8, 0);
        x.alias(1);
        x.alias(5);
        x.setting(2, 1);
        x.platform();
        x.configuration(0);
        for (int i : WRONG) {
            due("set: configuration " + i, x.set(i, 0, 0), NONE);
            due("set: setting " + i, x.set(0, i, 0), NONE);
            due("set: value " + i, x.set(0, 0, i), NONE);
        }
        due("set: configuration 1", x.set(1, 0, 0), NONE);
        due("set: setting 5", x.set(0, 5, 0), NONE);
        due("set: without a base", x.set(0, 3, 0), NONE);
        due("set: value 2 of 2", x.set(0, 4, 2), NONE);
        due("set: value 8 of 8", x.set(0, 0, 8), NONE);
        due("set: ordinary", x.set(0, 0, 7), 1);
        due("set: by an alias", x.set(1, 2, 6), 2);
        due("set: like ones are one", x.set(x.set(0, 1, 6), 0, 7), 2);
        due("set: what it has", x.set(2, 0, 7), 2);
        due("set: back", x.set(1, 0, 0), 0);
        due("set: kept the others", x.value(2, 0), 7);
        due("set: base has it", x.value(2, 1), 6);
        due("set: like one otherwise", x.value(2, 4), 1);
        due("set: the one before stays", x.value(0, 0), 0);
        fill(x, 0, 1);
        due("set: one of the 60", x.set(2, 0, 0), 3);
        due("set: would be the 61st", x.set(0, 4, 0), NONE);
        due("set: still", x.set(59, 4, 0), NONE);
    }

    private static void value() {
        SelectConfig x = new SelectConfig();
        x.setting(3, 2);
        x.alias(0);
        x.alias(2);
        x.platform();
        x.configuration(0);
        x.set(0, 0, 1);
        due("value: ordinary", x.value(1, 0), 1);
        due("value: by an alias", x.value(1, 1), 1);
        due("value: without a base", x.value(1, 2), NONE);
        due("value: fallback", x.value(0, 1), 2);
        due("value: configuration 2", x.value(2, 0), NONE);
        due("value: setting 3", x.value(0, 3), NONE);
        for (int i : WRONG) {
            due("value: configuration " + i, x.value(i, 0), NONE);
            due("value: setting " + i, x.value(0, i), NONE);
        }
    }

    private static void settingComesLater() {
        SelectConfig x = new SelectConfig();
        x.setting(2, 0);
        x.alias(2);
        x.platform();
        x.configuration(0);
        x.set(0, 0, 1);
        due("later: not there", x.value(1, 1), NONE);
        x.setting(8, 6);
        due("later: in the first", x.value(0, 2), 6);
        due("later: in the second", x.value(1, 2), 6);
        due("later: by the alias", x.value(1, 1), 6);
        due("later: the other one stays", x.value(1, 0), 1);
        due("later: like ones are one", x.configuration(0), 0);
        due("later: set to the fallback", x.set(1, 2, 6), 1);
        x.alias(0);
        due("later: an alias changes none", x.set(1, 3, 0), 0);
    }

    private static void holds() {
        SelectConfig x = new SelectConfig();
        x.setting(3, 2);
        x.alias(0);
        x.alias(4);
        x.platform();
        x.platform();
        x.has(0, 7, 3);
        int onFirst = x.configuration(0);
        int onSecond = x.configuration(1);
        int empty = x.condition();
        due("holds: without askings", x.holds(empty, onFirst), true);
        int byAxis = x.condition();
        x.asks(byAxis, true, 7, 3);
        due("holds: axis", x.holds(byAxis, onFirst), true);
        due("holds: axis without value", x.holds(byAxis, onSecond), false);
        int byOtherAxis = x.condition();
        x.asks(byOtherAxis, true, 6, 3);
        due("holds: other axis", x.holds(byOtherAxis, onFirst), false);
        int byAlias = x.condition();
        x.asks(byAlias, false, 1, 2);
        due("holds: alias", x.holds(byAlias, onFirst), true);
        due("holds: other value", x.holds(byAlias, x.set(onFirst, 0, 1)), false);
        int both = x.condition();
        x.asks(both, false, 0, 2);
        x.asks(both, true, 7, 3);
        due("holds: both", x.holds(both, onFirst), true);
        due("holds: the setting alone", x.holds(both, onSecond), false);
        due("holds: the axis alone", x.holds(both, x.set(onFirst, 0, 1)), false);
        int beyond = x.condition();
        x.asks(beyond, false, 0, 7);
        due("holds: a value that it hasn't", x.holds(beyond, onFirst), false);
        int without = x.condition();
        x.asks(without, false, 2, 0);
        due("holds: without a base", x.holds(without, onFirst), false);
        x.setting(1, 0);
        due("holds: still without", x.holds(without, onFirst), false);
        x.setting(2, 0);
        due("holds: the base has come", x.holds(without, onFirst), true);
        due("holds: condition 7", x.holds(7, onFirst), false);
        due("holds: configuration 3", x.holds(empty, 3), false);
        for (int i : WRONG) {
            due("holds: condition " + i, x.holds(i, onFirst), false);
            due("holds: configuration " + i, x.holds(empty, i), false);
        }
    }

    /** SETTINGS 0, 1, 2 of 2 VALUES, a CONFIGURATION of 0s, CONDITIONS 0 (none), 1, 2, 4 (a SETTING each), and sums. */
    private static SelectConfig threeBits() {
        SelectConfig x = new SelectConfig();
        for (int i = 0; i < 3; i++) {
            x.setting(2, 0);
        }
        for (int bits = 0; bits < 8; bits++) {
            x.condition();
            for (int i = 0; i < 3; i++) {
                if ((bits >> i & 1) == 1) {
                    x.asks(bits, false, i, 1);
                }
            }
        }
        x.platform();
        x.configuration(0);
        x.target();
        return x;
    }

    /** The CONFIGURATION of threeBits whose SETTINGS have these VALUES. */
    private static int bits(SelectConfig x, int bits) {
        return x.set(x.set(x.set(0, 0, bits & 1), 1, bits >> 1 & 1), 2, bits >> 2 & 1);
    }

    private static void choose() {
        SelectConfig x = threeBits();
        x.select(0);
        due("choose: no branches", x.choose(0, 0), 0);
        x.branch(0, 1, false, 10);
        x.branch(0, 2, false, 20);
        x.branch(0, 4, false, 10);
        due("choose: none holds", x.choose(0, 0), 0);
        due("choose: one holds", x.choose(0, bits(x, 2)), 1);
        due("choose: its value", x.chosen(0), 20);
        due("choose: two hold and give the same", x.choose(0, bits(x, 5)), 1);
        due("choose: the same", x.chosen(0), 10);
        due("choose: two clash", x.choose(0, bits(x, 6)), 2);
        due("choose: first of them", x.chosen(0), 1);
        due("choose: second of them", x.chosen(1), 2);
        due("choose: three clash", x.choose(0, bits(x, 7)), 2);
        due("choose: first of three", x.chosen(0), 0);
        due("choose: first that gives something else", x.chosen(1), 1);
        x.otherwise(0, 5);
        due("choose: otherwise", x.choose(0, 0), 1);
        due("choose: not otherwise", x.choose(0, bits(x, 3)), 2);
        due("choose: select 1", x.choose(1, 0), NONE);
        due("choose: configuration 8", x.choose(0, 8), NONE);
        for (int i : WRONG) {
            due("choose: select " + i, x.choose(i, 0), NONE);
            due("choose: configuration " + i, x.choose(0, i), NONE);
        }
    }

    private static void chooseMostSpecial() {
        SelectConfig x = threeBits();
        x.select(0);
        x.branch(0, 0, false, 1);
        x.branch(0, 3, false, 4);
        x.branch(0, 1, false, 2);
        x.branch(0, 2, false, 3);
        x.branch(0, 6, false, 5);
        x.otherwise(0, 99);
        due("special: nothing asked", x.choose(0, 0), 1);
        due("special: the empty one", x.chosen(0), 1);
        x.choose(0, bits(x, 1));
        due("special: one asking", x.chosen(0), 2);
        x.choose(0, bits(x, 3));
        due("special: two askings", x.chosen(0), 4);
        x.choose(0, bits(x, 6));
        due("special: one doesn't hold", x.chosen(0), 5);
        due("special: neither has the other's", x.choose(0, bits(x, 7)), 2);
        due("special: first", x.chosen(0), 1);
        due("special: second", x.chosen(1), 4);
        x.branch(0, 7, false, 6);
        due("special: all three", x.choose(0, bits(x, 7)), 1);
        due("special: its value", x.chosen(0), 6);
        x.branch(0, 7, false, 7);
        due("special: like conditions", x.choose(0, bits(x, 7)), 2);
        due("special: like conditions' first", x.chosen(0), 5);
        due("special: like conditions' second", x.chosen(1), 6);
    }

    private static void chooseByBases() {
        SelectConfig x = new SelectConfig();
        x.setting(2, 1);
        x.alias(0);
        x.platform();
        x.has(0, 0, 1);
        x.configuration(0);
        x.target();
        x.select(0);
        int told = x.condition();
        x.asks(told, false, 0, 1);
        int byAlias = x.condition();
        x.asks(byAlias, false, 1, 1);
        int byBoth = x.condition();
        x.asks(byBoth, false, 0, 1);
        x.asks(byBoth, false, 1, 1);
        x.branch(0, told, false, 1);
        x.branch(0, byAlias, false, 1);
        x.branch(0, byBoth, false, 2);
        due("bases: as sets", x.choose(0, 0), 2);
        due("bases: first", x.chosen(0), 0);
        due("bases: third", x.chosen(1), 2);
        int withAxis = x.condition();
        x.asks(withAxis, true, 0, 1);
        x.asks(withAxis, false, 1, 1);
        x.branch(0, withAxis, false, 3);
        due("bases: axis more", x.choose(0, 0), 1);
        due("bases: axis more's value", x.chosen(0), 3);

        SelectConfig y = new SelectConfig();
        y.alias(5);
        y.platform();
        y.configuration(0);
        y.target();
        y.select(0);
        int empty = y.condition();
        int without = y.condition();
        y.asks(without, false, 0, 0);
        y.branch(0, empty, false, 1);
        y.branch(0, without, false, 2);
        y.choose(0, 0);
        due("bases: one without a base", y.chosen(0), 1);
    }

    private static void chooseNested() {
        SelectConfig x = threeBits();
        x.select(0);
        x.branch(0, 2, false, 20);
        x.branch(0, 4, false, 40);
        x.select(0);
        x.branch(1, 1, true, 0);
        x.otherwise(1, 7);
        due("nested: nothing within", x.choose(1, bits(x, 1)), 0);
        due("nested: nothing within, chosen", x.chosen(0), NONE);
        x.choose(1, bits(x, 2));
        due("nested: otherwise of the outer one", x.chosen(0), 7);
        x.choose(1, bits(x, 3));
        due("nested: value within", x.chosen(0), 20);
        due("nested: clash within", x.choose(1, bits(x, 7)), 2);
        due("nested: clash within, first", x.chosen(0), 0);
        due("nested: clash within, second", x.chosen(1), 1);
        x.otherwise(0, 60);
        x.choose(1, bits(x, 1));
        due("nested: otherwise of the inner one", x.chosen(0), 60);
        x.branch(1, 1, false, 60);
        due("nested: the same as a value", x.choose(1, bits(x, 1)), 1);
        due("nested: not the same as a value", x.choose(1, bits(x, 3)), 2);
        due("nested: where it began, first", x.chosen(0), 0);
        due("nested: where it began, second", x.chosen(1), 1);
        due("nested: clash within and a value", x.choose(1, bits(x, 7)), 2);
        due("nested: clash within and a value, first", x.chosen(0), 0);
        due("nested: clash within and a value, second", x.chosen(1), 1);
    }

    private static void chooseNestedAlike() {
        SelectConfig x = threeBits();
        x.select(0);
        x.branch(0, 1, false, 1);
        x.branch(0, 1, false, 1);
        x.branch(0, 2, false, 2);
        x.select(0);
        x.branch(1, 1, false, 3);
        x.branch(1, 2, false, 4);
        x.select(0);
        x.branch(2, 4, true, 0);
        x.branch(2, 4, true, 1);
        due("alike: nothing and nothing", x.choose(2, bits(x, 4)), 0);
        due("alike: a clash and a clash", x.choose(2, bits(x, 7)), 2);
        due("alike: the first one's first", x.chosen(0), 0);
        due("alike: the first one's second", x.chosen(1), 2);
        due("alike: values differ", x.choose(2, bits(x, 5)), 2);
        due("alike: values differ, second", x.chosen(1), 1);
        x.select(0);
        x.select(0);
        x.branch(4, 4, true, 3);
        x.branch(4, 4, false, 0);
        due("alike: nothing and the value 0", x.choose(4, bits(x, 4)), 2);
        due("alike: nothing and the value 0, first", x.chosen(0), 0);
        due("alike: nothing and the value 0, second", x.chosen(1), 1);
        x.select(0);
        x.branch(5, 4, true, 3);
        x.branch(5, 4, true, 0);
        due("alike: nothing and a clash", x.choose(5, bits(x, 7)), 2);
        due("alike: nothing and a clash, first", x.chosen(0), 0);
        due("alike: nothing and a clash, second", x.chosen(1), 1);
    }

    private static void chosen() {
        SelectConfig x = threeBits();
        x.select(0);
        x.branch(0, 1, false, Integer.MIN_VALUE);
        x.branch(0, 2, false, Integer.MAX_VALUE);
        x.choose(0, bits(x, 1));
        due("chosen: value", x.chosen(0), Integer.MIN_VALUE);
        due("chosen: value has no second side", x.chosen(1), NONE);
        x.choose(0, 99);
        x.choose(99, 0);
        due("chosen: a choose that was NONE doesn't count", x.chosen(0), Integer.MIN_VALUE);
        x.choose(0, bits(x, 2));
        due("chosen: the largest", x.chosen(0), Integer.MAX_VALUE);
        x.choose(0, bits(x, 3));
        due("chosen: clash", x.chosen(1), 1);
        due("chosen: side 2", x.chosen(2), NONE);
        for (int i : WRONG) {
            due("chosen: side " + i, x.chosen(i), NONE);
        }
        x.branch(0, 3, false, 5);
        due("chosen: as it was then", x.chosen(1), 1);
        x.choose(0, 0);
        due("chosen: nothing", x.chosen(0), NONE);
        due("chosen: nothing, second side", x.chosen(1), NONE);
    }

    private static void need() {
        SelectConfig x = new SelectConfig();
        x.target();
        x.target();
        for (int i : WRONG) {
            due("need: target " + i, x.need(i, 0), NONE);
            due("need: other " + i, x.need(0, i), NONE);
        }
        due("need: target 2", x.need(2, 0), NONE);
        due("need: other 2", x.need(0, 2), NONE);
        due("need: ordinary", x.need(0, 1), 0);
        due("need: itself", x.need(1, 1), 1);
        due("need: again", x.need(0, 1), 2);
        for (int i = 3; i < 40; i++) {
            due("need: number", x.need(1, 0), i);
        }
        due("need: 41st", x.need(1, 0), NONE);
    }

    private static void change() {
        SelectConfig x = new SelectConfig();
        x.setting(2, 0);
        x.alias(9);
        x.target();
        x.need(0, 0);
        x.need(0, 0);
        for (int i : WRONG) {
            due("change: need " + i, x.change(i, 0, 1), false);
            due("change: setting " + i, x.change(0, i, 1), false);
        }
        due("change: need 2", x.change(2, 0, 1), false);
        due("change: setting 2", x.change(0, 2, 1), false);
        due("change: no values", x.change(0, 0, 0), false);
        due("change: bits that mean nothing", x.change(0, 0, 0x7FFFFF00), false);
        due("change: sign", x.change(0, 0, Integer.MIN_VALUE), false);
        due("change: values that it hasn't", x.change(0, 0, 128), true);
        due("change: without a base", x.change(0, 1, 1), true);
        due("change: third", x.change(0, 0, 1), false);
        due("change: all bits", x.change(1, 0, -1), true);
        due("change: same setting", x.change(1, 0, 256 + 1), true);
        due("change: third of the second need", x.change(1, 0, 1), false);
    }

    private static void reads() {
        SelectConfig x = threeBits();
        x.setting(2, 0);
        x.alias(3);
        x.alias(9);
        for (int i = 0; i < 4; i++) {
            x.target();
        }
        due("reads: nothing", x.reads(0), 0);
        x.select(0);
        x.branch(0, 5, false, 0);
        due("reads: a branch", x.reads(0), 5);
        x.select(0);
        x.branch(1, 2, false, 0);
        due("reads: another select", x.reads(0), 7);
        due("reads: other target", x.reads(1), 0);
        int odd = x.condition();
        x.asks(odd, false, 4, 1);
        x.asks(odd, false, 5, 1);
        x.asks(odd, true, 6, 1);
        x.wants(1, odd);
        due("reads: by the base, no axis", x.reads(1), 8);
        x.wants(4, 4);
        x.need(3, 4);
        x.need(2, 3);
        x.need(1, 2);
        due("reads: all the way", x.reads(1), 12);
        due("reads: part of the way", x.reads(2), 4);
        due("reads: the way back is none", x.reads(4), 4);
        int need = x.need(4, 0);
        x.change(need, 0, 1);
        x.change(need, 3, 1);
        due("reads: a changed setting all the same", x.reads(1), 15);
        due("reads: a change reads nothing", x.reads(4), 7);
        x.need(0, 1);
        due("reads: round", x.reads(0), 15);
        due("reads: round, another one", x.reads(3), 15);
        x.wants(1, 0);
        due("reads: what it wanted before is gone", x.reads(3), 7);
        due("reads: target 5", x.reads(5), 0);
        for (int i : WRONG) {
            due("reads: target " + i, x.reads(i), 0);
        }

        SelectConfig last = new SelectConfig();
        for (int i = 0; i < 16; i++) {
            last.setting(1, 0);
            last.target();
        }
        last.condition();
        last.asks(0, false, 15, 0);
        last.wants(15, 0);
        for (int i = 0; i < 15; i++) {
            last.need(i, i + 1);
        }
        due("reads: the longest way and the last setting", last.reads(0), 1 << 15);
    }

    private static void trim() {
        SelectConfig x = new SelectConfig();
        x.setting(8, 3);
        x.setting(8, 4);
        x.alias(1);
        x.setting(2, 0);
        x.platform();
        x.platform();
        x.configuration(0);
        x.configuration(1);
        x.target();
        x.target();
        x.condition();
        x.asks(0, false, 2, 1);
        x.wants(1, 0);
        int both = x.set(x.set(1, 0, 1), 1, 1);
        due("trim: reads nothing", x.trim(0, both), 1);
        due("trim: reads a base", x.trim(1, both), both + 1);
        due("trim: the base stays", x.value(both + 1, 1), 1);
        due("trim: the other one has its fallback", x.value(both + 1, 0), 3);
        due("trim: is trimmed", x.trim(1, both + 1), both + 1);
        due("trim: other platform", x.trim(0, x.set(0, 0, 0)), 0);
        due("trim: target 2", x.trim(2, 0), NONE);
        for (int i : WRONG) {
            due("trim: target " + i, x.trim(i, 0), NONE);
            due("trim: configuration " + i, x.trim(0, i), NONE);
        }
        int start = x.set(x.set(1, 3, 1), 1, 6);
        fill(x, 0, 1);
        due("trim: one of the 60", x.trim(0, start), 1);
        due("trim: would be the 61st", x.trim(1, start), NONE);
        due("trim: expand with the 61st", x.expand(1, start), -2);
        due("trim: no pairs then", x.pair(0, 0), NONE);
    }

    private static void expand() {
        SelectConfig x = threeBits();
        due("expand: alone", x.expand(0, 0), 1);
        due("expand: target 1", x.expand(1, 0), NONE);
        due("expand: configuration 1", x.expand(0, 1), NONE);
        for (int i : WRONG) {
            due("expand: target " + i, x.expand(i, 0), NONE);
            due("expand: configuration " + i, x.expand(0, i), NONE);
        }
        due("expand: the pairs stay", x.pair(0, 0), 0);
        x.need(0, 0);
        due("expand: itself without change", x.expand(0, 0), 1);
    }

    /** One line a PAIR: its TARGET, the VALUES of SETTINGS 0 to 2, and whether it is LEFT OUT. */
    private static void duePairs(String call, SelectConfig x, String want) {
        StringBuilder got = new StringBuilder();
        for (int i = 0; x.pair(i, 0) != NONE; i++) {
            int configuration = x.pair(i, 1);
            got.append(i == 0 ? "" : " ").append(x.pair(i, 0)).append(':');
            for (int setting = 0; setting < 3; setting++) {
                got.append(x.value(configuration, setting));
            }
            got.append(x.pair(i, 2) == 0 ? "" : x.pair(i, 2) == 1 ? "!" : "?");
        }
        asked++;
        if (!got.toString().equals(want)) {
            wrong++;
            System.out.println(call + " gave " + got + ", due is " + want);
        }
    }

    /** SETTINGS 0, 1, 2 of 8, 2 and 3 VALUES, and so many TARGETS that READ all of them. */
    private static SelectConfig threeReaders(int readers) {
        SelectConfig x = new SelectConfig();
        x.setting(8, 0);
        x.setting(2, 0);
        x.setting(3, 0);
        x.platform();
        x.configuration(0);
        x.condition();
        for (int i = 0; i < 3; i++) {
            x.asks(0, false, i, 0);
        }
        for (int i = 0; i < readers; i++) {
            x.target();
            x.branch(x.select(i), 0, false, 0);
        }
        return x;
    }

    private static void expandOrder() {
        SelectConfig x = threeReaders(4);
        x.need(0, 2);
        x.need(1, 3);
        x.need(0, 1);
        x.need(2, 0);
        x.need(2, 3);
        x.change(4, 0, 2);
        x.expand(0, 0);
        duePairs("order", x, "0:000 2:000 1:000 3:100 3:000");
        due("order: from another one", x.expand(1, 0), 2);
        duePairs("order: from another one", x, "1:000 3:000");
    }

    private static void expandChanges() {
        SelectConfig x = threeReaders(2);
        int need = x.need(0, 1);
        x.change(need, 2, 5);
        x.expand(0, 0);
        duePairs("changes: one", x, "0:000 1:000 1:002");
        x.change(need, 0, 0b10001010);
        due("changes: how many", x.expand(0, 0), 7);
        duePairs("changes: the second faster", x, "0:000 1:100 1:300 1:700 1:102 1:302 1:702");
        int on = x.need(1, 1);
        x.change(on, 0, 4);
        x.expand(0, x.set(0, 1, 1));
        duePairs("changes: go on", x, "0:010 1:110 1:310 1:710 1:112 1:312 1:712 1:210 1:212");
    }

    private static void expandOddChanges() {
        SelectConfig x = threeReaders(2);
        x.alias(0);
        x.alias(9);
        int some = x.need(0, 1);
        x.change(some, 1, 0b1110);
        x.expand(0, 0);
        duePairs("odd: values that the base has", x, "0:000 1:010");
        int none = x.need(1, 0);
        x.change(none, 2, 0b11111000);
        x.expand(0, 0);
        duePairs("odd: none that the base has", x, "0:000 1:010");
        x.change(none, 0, 0b10);
        x.expand(0, 0);
        duePairs("odd: none that the base has, and others", x, "0:000 1:010");
        int same = x.need(1, 1);
        x.change(same, 0, 0b110);
        x.change(same, 3, 0b11000);
        x.expand(1, 0);
        duePairs("odd: one base", x, "1:000 1:300 1:400");
        int without = x.need(0, 0);
        x.change(without, 4, 0b111);
        x.change(without, 2, 0b100);
        x.expand(0, 0);
        duePairs("odd: without a base, first", x, "0:000 1:010 0:002 1:310 1:410 1:012 1:312 1:412");

        SelectConfig y = threeReaders(1);
        y.alias(9);
        y.need(0, 0);
        y.change(0, 2, 0b11);
        y.change(0, 3, 0b10);
        y.expand(0, y.set(0, 2, 2));
        duePairs("odd: without a base, second", y, "0:002 0:000 0:001");
    }

    private static void expandTrims() {
        SelectConfig x = threeReaders(1);
        x.target();
        x.target();
        int onlyFirst = x.condition();
        x.asks(onlyFirst, false, 0, 0);
        x.wants(1, onlyFirst);
        int need = x.need(1, 2);
        x.change(need, 0, 255);
        x.change(need, 2, 255);
        int start = x.set(x.set(0, 0, 5), 1, 1);
        due("trims: how many", x.expand(1, start), 2);
        duePairs("trims", x, "1:500! 2:000");
        due("trims: only trimmed ones come up", x.set(0, 1, 1), start + 1);
        int back = x.need(2, 1);
        x.change(back, 1, 2);
        x.expand(2, start);
        duePairs("trims: on the way", x, "2:500? 1:500! 2:000? 2:100? 2:200? 2:300? 2:400? 2:600? 2:700? "
            + "1:000? 1:100! 1:200! 1:300! 1:400! 1:600! 1:700!");
    }

    private static void expandTooMany() {
        SelectConfig x = threeReaders(2);
        int need = x.need(0, 0);
        x.change(need, 0, 255);
        x.change(need, 2, 255);
        due("too many: 24", x.expand(0, 0), 24);
        int to = x.need(0, 1);
        due("too many: 48", x.expand(0, 0), 48);
        x.change(to, 1, 3);
        due("too many: 72", x.expand(0, 0), -2);
        due("too many: no pairs", x.pair(0, 0), NONE);
        due("too many: NONE changes nothing", x.expand(9, 0), NONE);
        due("too many: still no pairs", x.pair(0, 0), NONE);
        due("too many: those that came up stay", x.value(24, 1), 1);
        due("too many: again one that goes", x.expand(1, 0), 1);
        due("too many: its pair", x.pair(0, 0), 1);

        SelectConfig full = threeReaders(15);
        full.change(full.need(0, 0), 1, 3);
        full.change(0, 0, 3);
        for (int i = 1; i < 15; i++) {
            full.need(0, i);
        }
        due("too many: 60 are not", full.expand(0, 0), 60);
        due("too many: 60th", full.pair(59, 0), 14);
        due("too many: 61st", full.pair(60, 0), NONE);
        full.target();
        full.need(14, 15);
        due("too many: 61", full.expand(0, 0), -2);
    }

    private static void expandTooManyConfigurations() {
        SelectConfig x = threeReaders(1);
        int need = x.need(0, 0);
        x.change(need, 0, 255);
        int later = x.setting(8, 0);
        int last = 0;
        for (int i = 8; i < 64 && last != 55; i++) {
            last = x.set(x.set(0, later, i / 8), 0, i % 8);
        }
        due("configurations: 56", last, 55);
        due("configurations: there would be 63", x.expand(0, 0), -2);
        due("configurations: no pairs", x.pair(0, 1), NONE);
        due("configurations: the 60th stays", x.value(59, 0), 4);
        due("configurations: no 61st", x.value(60, 0), NONE);
        due("configurations: none more", x.set(0, 0, 5), NONE);
    }

    private static void pair() {
        SelectConfig x = threeReaders(2);
        int need = x.need(1, 0);
        x.change(need, 0, 8);
        due("pair: before", x.pair(0, 0), NONE);
        due("pair: expand", x.expand(1, 0), 2);
        due("pair: target", x.pair(0, 0), 1);
        due("pair: configuration", x.pair(0, 1), 0);
        due("pair: kept", x.pair(0, 2), 0);
        due("pair: second target", x.pair(1, 0), 0);
        due("pair: second configuration", x.pair(1, 1), 1);
        due("pair: third", x.pair(2, 0), NONE);
        due("pair: what 3", x.pair(0, 3), NONE);
        for (int i : WRONG) {
            due("pair: " + i, x.pair(i, 0), NONE);
            due("pair: what " + i, x.pair(0, i), NONE);
        }
        x.wants(0, 0);
        due("pair: as it was then", x.pair(1, 2), 0);
        x.expand(0, 0);
        due("pair: fewer now", x.pair(1, 0), NONE);
    }

    private static void leftOut() {
        SelectConfig x = threeReaders(5);
        int one = x.condition();
        x.asks(one, false, 0, 1);
        x.wants(4, one);
        x.need(0, 1);
        x.need(1, 2);
        x.need(2, 1);
        x.need(0, 3);
        x.need(2, 4);
        x.expand(0, 0);
        duePairs("left out: all the way up", x, "0:000? 1:000? 3:000 2:000? 4:000!");
        x.expand(0, x.set(0, 0, 1));
        duePairs("left out: none", x, "0:100 1:100 3:100 2:100 4:100");
        x.need(4, 3);
        x.expand(4, 0);
        duePairs("left out: leads to others all the same", x, "4:000! 3:000");
        x.wants(3, one);
        x.expand(4, 0);
        duePairs("left out: by both is by its want", x, "4:000! 3:000!");

        SelectConfig y = threeReaders(2);
        int not = y.condition();
        y.asks(not, false, 0, 1);
        y.wants(1, not);
        int need = y.need(0, 1);
        y.change(need, 0, 3);
        y.expand(0, 0);
        duePairs("left out: one of a need's", y, "0:000? 1:000! 1:100");
        y.wants(0, not);
        y.expand(0, 0);
        duePairs("left out: want before need", y, "0:000! 1:000! 1:100");

        SelectConfig again = threeReaders(2);
        int high = again.condition();
        again.asks(high, false, 0, 7);
        again.wants(0, high);
        again.change(again.need(0, 1), 0, 255);
        again.need(1, 0);
        again.expand(0, again.set(0, 0, 7));
        duePairs("left out: by a pair that was there", again,
            "0:700? 1:000? 1:100? 1:200? 1:300? 1:400? 1:500? 1:600? 1:700? 0:000! 0:100! 0:200! 0:300! "
                + "0:400! 0:500! 0:600!");
    }

    /** PAIRS stand in the same rows expand after expand: nothing of an earlier one may be left in them. */
    private static void leftOutAfterAnother() {
        SelectConfig x = threeReaders(6);
        int one = x.condition();
        x.asks(one, false, 0, 1);
        x.wants(5, one);
        x.need(0, 1);
        x.need(1, 2);
        x.need(3, 4);
        x.need(3, 5);
        x.expand(0, 0);
        duePairs("left out: a chain, none", x, "0:000 1:000 2:000");
        x.expand(3, 0);
        duePairs("left out: the third, not the second", x, "3:000? 4:000 5:000!");
        x.expand(0, 0);
        duePairs("left out: the chain again", x, "0:000 1:000 2:000");
    }

    /** As many of each as there may be, and the last one of each used: nothing lies beyond its end. */
    private static void allFull() {
        SelectConfig x = new SelectConfig();
        for (int i = 0; i < 15; i++) {
            x.setting(8, 0);
        }
        for (int i = 0; i < 8; i++) {
            x.platform();
            x.has(i, 7, i);
        }
        for (int i = 0; i < 120 && x.value(59, 0) == NONE; i++) {
            x.set(x.configuration(7), 14 - i / 8, i % 8);
        }
        due("full: setting", x.setting(8, 7), 15);
        due("full: its fallback in the last one", x.value(59, 15), 7);
        for (int i = 0; i < 40; i++) {
            x.condition();
            for (int axis = 2; axis < 7 && i == 38; axis++) {
                x.asks(i, true, axis, 0);
            }
        }
        for (int setting = 11; setting < 16; setting++) {
            x.asks(39, false, setting, setting == 15 ? 7 : 0);
        }
        x.asks(39, true, 7, 7);
        for (int i = 0; i < 16; i++) {
            x.target();
        }
        for (int i = 0; i < 24; i++) {
            x.select(15);
            for (int branch = 0; branch < 8 && i >= 22; branch++) {
                x.branch(i, 39, i == 23, i == 23 ? 22 : branch / 7);
            }
        }
        for (int i = 0; i < 40; i++) {
            x.need(15, 15);
            x.change(i, 15, 128);
            x.change(i, 15, 128);
        }
        x.wants(15, 39);
        int plain = x.configuration(7);
        due("full: holds", x.holds(39, plain), true);
        due("full: choose", x.choose(23, plain), 2);
        due("full: the last branch", x.chosen(1), 7);
        due("full: reads", x.reads(15), 0xF800);
        due("full: trim", x.trim(15, plain), plain);
        due("full: expand", x.expand(15, plain), 1);
        due("full: pair", x.pair(0, 2), 0);
    }
}
