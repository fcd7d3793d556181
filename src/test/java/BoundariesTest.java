import java.util.function.Consumer;

/**
 * One test for each sentence of the document that names a boundary case: each has a new object, and
 * none makes more than the 512 calls for which answers are promised.
 */
public final class BoundariesTest {
    private static final int NONE = SelectConfig.NONE;
    private static final int[] FAR = {-2, 99, Integer.MIN_VALUE, Integer.MAX_VALUE};
    private static String sentence = "";
    private static int sentences = 0;
    private static int wrong = 0;

    private static void sentence(String words, Consumer<SelectConfig> test) {
        sentence = words;
        sentences++;
        try {
            test.accept(new SelectConfig());
        } catch (RuntimeException thrown) {
            wrong++;
            System.out.println(sentence + ": threw " + thrown);
        }
    }

    private static void due(String call, int got, int want) {
        if (got != want) {
            wrong++;
            System.out.println(sentence + ": " + call + " answered " + got + ", due is " + want);
        }
    }

    private static void due(String call, boolean got, boolean want) {
        due(call, got ? 1 : 0, want ? 1 : 0);
    }

    private static void due(String call, String got, String want) {
        if (!got.equals(want)) {
            wrong++;
            System.out.println(sentence + ": " + call + " gave " + got + ", due is " + want);
        }
    }

    public static void main(String[] args) {
        newObject();
        setting();
        alias();
        base();
        platform();
        has();
        condition();
        asks();
        target();
        wants();
        select();
        branch();
        nested();
        otherwise();
        configuration();
        set();
        value();
        holds();
        choose();
        moreSpecial();
        clash();
        chosen();
        need();
        change();
        reads();
        trim();
        expand();
        changesOnTheWay();
        tooMany();
        pair();
        leftOut();
        System.out.println(sentences + " sentences, " + wrong + " answers not as due");
        if (wrong != 0) {
            System.exit(1);
        }
    }

    private static void settings(SelectConfig x, int count, int values, int fallback) {
        for (int i = 0; i < count; i++) {
            x.setting(values, fallback);
        }
    }

    private static void aliases(SelectConfig x, int... others) {
        for (int other : others) {
            x.alias(other);
        }
    }

    private static void platforms(SelectConfig x, int count) {
        for (int i = 0; i < count; i++) {
            x.platform();
        }
    }

    private static void targets(SelectConfig x, int count) {
        for (int i = 0; i < count; i++) {
            x.target();
        }
    }

    private static void conditions(SelectConfig x, int count) {
        for (int i = 0; i < count; i++) {
            x.condition();
        }
    }

    /** A new PLATFORM's first CONFIGURATION. */
    private static int start(SelectConfig x) {
        return x.configuration(x.platform());
    }

    /** A new CONDITION that a SETTING has a VALUE. */
    private static int asking(SelectConfig x, int setting, int value) {
        int condition = x.condition();
        x.asks(condition, false, setting, value);
        return condition;
    }

    /** A new CONDITION that the PLATFORM has a VALUE of an AXIS. */
    private static int askingAxis(SelectConfig x, int axis, int value) {
        int condition = x.condition();
        x.asks(condition, true, axis, value);
        return condition;
    }

    /** A new CONDITION with an ASKING about each of some SETTINGS, that it has this VALUE. */
    private static int askingAll(SelectConfig x, int value, int... settings) {
        int condition = x.condition();
        for (int setting : settings) {
            x.asks(condition, false, setting, value);
        }
        return condition;
    }

    /** A TARGET READS what a CONDITION asks about from now on. */
    private static void read(SelectConfig x, int target, int condition) {
        x.branch(x.select(target), condition, false, 0);
    }

    /** Makes CONFIGURATIONS of CONFIGURATION 0, by two SETTINGS of 8 VALUES, until there are so many. */
    private static void fill(SelectConfig x, int one, int other, int count) {
        int last = 0;
        for (int i = 0; i < 64 && last < count - 1; i++) {
            last = Math.max(last, x.set(x.set(0, one, i / 8), other, i % 8));
        }
        due("the last of " + count, last, count - 1);
    }

    /** What CHOOSING gives: "nothing", a VALUE, or the two BRANCHES that clash. */
    private static String choice(SelectConfig x, int select, int configuration) {
        int kind = x.choose(select, configuration);
        switch (kind) {
            case 0: return "nothing";
            case 1: return "" + x.chosen(0);
            case 2: return x.chosen(0) + "/" + x.chosen(1);
            default: return "choose " + kind;
        }
    }

    /** For each PAIR its TARGET, the VALUES of SETTINGS 0 and 1, and ! or ? if it is LEFT OUT by its WANT or a NEED. */
    private static String pairs(SelectConfig x) {
        StringBuilder all = new StringBuilder();
        for (int i = 0; i < 61 && x.pair(i, 0) != NONE; i++) {
            int configuration = x.pair(i, 1);
            all.append(i == 0 ? "" : " ").append(x.pair(i, 0)).append(':');
            all.append(x.value(configuration, 0)).append(x.value(configuration, 1));
            all.append(x.pair(i, 2) == 1 ? "!" : x.pair(i, 2) == 2 ? "?" : "");
        }
        return all.toString();
    }

    private static String expanded(SelectConfig x, int target, int configuration) {
        return x.expand(target, configuration) + " " + pairs(x);
    }

    private static void newObject() {
        sentence("1: nothing of all: no number is there", x -> {
            due("base", x.base(0), NONE);
            due("has", x.has(0, 0, 0), false);
            due("asks an axis", x.asks(0, true, 0, 0), false);
            due("asks a setting", x.asks(0, false, 0, 0), false);
            due("wants", x.wants(0, 0), false);
            due("select", x.select(0), NONE);
            due("branch", x.branch(0, 0, false, 0), false);
            due("otherwise", x.otherwise(0, 0), false);
            due("configuration", x.configuration(0), NONE);
            due("set", x.set(0, 0, 0), NONE);
            due("value", x.value(0, 0), NONE);
            due("holds", x.holds(0, 0), false);
            due("choose", x.choose(0, 0), NONE);
            due("need", x.need(0, 0), NONE);
            due("change", x.change(0, 0, 1), false);
            due("reads", x.reads(0), 0);
            due("trim", x.trim(0, 0), NONE);
            due("expand", x.expand(0, 0), NONE);
        });
        sentence("1: nothing of all: nothing chosen, no pair", x -> {
            due("chosen 0", x.chosen(0), NONE);
            due("chosen 1", x.chosen(1), NONE);
            for (int what = 0; what < 3; what++) {
                due("pair", x.pair(0, what), NONE);
            }
        });
        sentence("1: nothing of all: each kind is numbered from 0", x -> {
            due("setting", x.setting(1, 0), 0);
            due("platform", x.platform(), 0);
            due("condition", x.condition(), 0);
            due("target", x.target(), 0);
            due("select", x.select(0), 0);
            due("need", x.need(0, 0), 0);
            due("configuration", x.configuration(0), 0);
        });
        sentence("1: nothing of all: objects have nothing in common", x -> {
            x.setting(8, 1);
            x.platform();
            x.condition();
            x.target();
            x.need(0, 0);
            x.otherwise(x.select(0), 4);
            x.configuration(0);
            x.choose(0, 0);
            x.expand(0, 0);
            SelectConfig y = new SelectConfig();
            due("chosen", y.chosen(0), NONE);
            due("pair", y.pair(0, 0), NONE);
            due("value", y.value(0, 0), NONE);
            due("setting", y.setting(2, 0), 0);
            due("the first one's pair", x.pair(0, 0), 0);
        });
    }

    private static void setting() {
        sentence("2: NONE if there are 16", x -> {
            for (int i = 0; i < 16; i++) {
                due("setting", x.setting(2, 1), i);
            }
            due("17th", x.setting(2, 1), NONE);
            due("base of the 16th", x.base(15), 15);
            due("base of a 17th", x.base(16), NONE);
        });
        sentence("2: NONE if there are 16, aliases counted too", x -> {
            for (int i = 0; i < 16; i++) {
                due("in turn", i % 2 == 0 ? x.setting(2, 0) : x.alias(0), i);
            }
            due("17th", x.setting(2, 0), NONE);
        });
        sentence("2: NONE if values aren't 1 .. 8: too few", x -> {
            due("0", x.setting(0, 0), NONE);
            due("0, fallback -1", x.setting(0, -1), NONE);
            due("-1", x.setting(-1, 0), NONE);
            due("-1, fallback -2", x.setting(-1, -2), NONE);
            due("the least", x.setting(Integer.MIN_VALUE, 0), NONE);
            due("1", x.setting(1, 0), 0);
        });
        sentence("2: NONE if values aren't 1 .. 8: too many", x -> {
            due("9", x.setting(9, 0), NONE);
            due("9, fallback 8", x.setting(9, 8), NONE);
            due("the most", x.setting(Integer.MAX_VALUE, 0), NONE);
            due("8", x.setting(8, 0), 0);
        });
        sentence("2: NONE if the fallback isn't one: too small", x -> {
            due("-1", x.setting(3, -1), NONE);
            due("the least", x.setting(3, Integer.MIN_VALUE), NONE);
            due("0", x.setting(3, 0), 0);
        });
        sentence("2: NONE if the fallback isn't one: too large", x -> {
            due("1 of 1", x.setting(1, 1), NONE);
            due("3 of 3", x.setting(3, 3), NONE);
            due("8 of 8", x.setting(8, 8), NONE);
            due("the most", x.setting(8, Integer.MAX_VALUE), NONE);
            due("7 of 8", x.setting(8, 7), 0);
            due("2 of 3", x.setting(3, 2), 1);
        });
        sentence("2: refused, it takes no number and changes no configuration", x -> {
            x.setting(8, 5);
            start(x);
            x.setting(9, 0);
            x.setting(3, 3);
            due("base", x.base(1), NONE);
            due("value", x.value(0, 0), 5);
            due("the next", x.setting(2, 0), 1);
            settings(x, 14, 2, 0);
            x.setting(8, 3);
            due("value when there are 16", x.value(0, 0), 5);
            due("like ones are one", x.configuration(0), 0);
        });
        sentence("Terms: values 0 .. up to 7", x -> {
            x.setting(8, 3);
            start(x);
            due("0", x.value(x.set(0, 0, 0), 0), 0);
            due("7", x.value(x.set(0, 0, 7), 0), 7);
        });
        sentence("Terms: a setting that comes later has its fallback in all", x -> {
            settings(x, 2, 8, 0);
            start(x);
            fill(x, 0, 1, 60);
            due("setting", x.setting(8, 7), 2);
            for (int i = 0; i < 60; i++) {
                due("value in " + i, x.value(i, 2), 7);
            }
            due("like ones are one", x.configuration(0), 0);
            due("with the fallback that it has", x.set(59, 2, 7), 59);
        });
        sentence("Terms: a setting that comes later has its fallback in all: the 16th", x -> {
            settings(x, 15, 8, 7);
            platforms(x, 8);
            x.configuration(7);
            x.set(0, 14, 0);
            due("setting", x.setting(8, 5), 15);
            due("in the first", x.value(0, 15), 5);
            due("in the second", x.value(1, 15), 5);
            due("the 15th stays", x.value(1, 14), 0);
            due("the platform stays", x.configuration(7), 0);
        });
    }

    private static void alias() {
        sentence("3: NONE if there are 16", x -> {
            for (int i = 0; i < 16; i++) {
                due("alias", x.alias(0), i);
            }
            due("17th", x.alias(0), NONE);
        });
        sentence("3: NONE if there are 16, settings counted too", x -> {
            settings(x, 16, 2, 0);
            due("17th", x.alias(0), NONE);
        });
        sentence("3: NONE if the other number isn't 0 .. 15", x -> {
            due("-1", x.alias(-1), NONE);
            due("16", x.alias(16), NONE);
            for (int far : FAR) {
                due("" + far, x.alias(far), NONE);
            }
            due("0", x.alias(0), 0);
            due("15", x.alias(15), 1);
        });
        sentence("3: refused, it takes no number", x -> {
            x.alias(16);
            x.alias(-1);
            due("setting", x.setting(2, 0), 0);
        });
        sentence("3: one which may come later", x -> {
            x.alias(2);
            due("not yet", x.base(0), NONE);
            x.alias(0);
            due("still not", x.base(0), NONE);
            x.setting(2, 0);
            due("now", x.base(0), 2);
            due("and of the second", x.base(1), 2);
        });
        sentence("3: one which may come later, as an alias", x -> {
            aliases(x, 1, 2);
            x.setting(2, 0);
            aliases(x, 4, 0);
            due("over four", x.base(3), 2);
        });
        sentence("Terms: a configuration has no value of an alias", x -> {
            x.setting(8, 0);
            start(x);
            x.set(0, 0, 6);
            x.alias(0);
            due("by the base", x.value(1, 1), 6);
            due("like ones are one", x.configuration(0), 0);
            due("set by the alias", x.set(0, 1, 6), 1);
            due("trimmed", x.trim(x.target(), 1), 0);
        });
    }

    private static void base() {
        sentence("4: NONE if there is none such", x -> {
            settings(x, 3, 2, 0);
            due("-1", x.base(-1), NONE);
            due("the last", x.base(2), 2);
            due("one more", x.base(3), NONE);
            for (int far : FAR) {
                due("" + far, x.base(far), NONE);
            }
        });
        sentence("4: NONE if there is none such: no base", x -> {
            aliases(x, 9, 0);
            due("of one not there", x.base(0), NONE);
            due("of its alias", x.base(1), NONE);
        });
        sentence("Terms: where the chain of aliases ends: no alias", x -> {
            x.setting(1, 0);
            due("base", x.base(0), 0);
        });
        sentence("Terms: where the chain of aliases ends: the longest, rising", x -> {
            for (int i = 0; i < 15; i++) {
                x.alias(i + 1);
            }
            x.setting(2, 0);
            due("of the first", x.base(0), 15);
            due("of the last alias", x.base(14), 15);
        });
        sentence("Terms: where the chain of aliases ends: the longest, falling", x -> {
            x.setting(2, 0);
            for (int i = 1; i < 16; i++) {
                x.alias(i - 1);
            }
            due("of the last", x.base(15), 0);
        });
        sentence("Terms: NONE: it goes round: an alias of itself", x -> {
            x.setting(2, 0);
            aliases(x, 1, 1);
            due("itself", x.base(1), NONE);
            due("one that leads there", x.base(2), NONE);
        });
        sentence("Terms: NONE: it goes round: all 16", x -> {
            for (int i = 0; i < 16; i++) {
                x.alias((i + 1) % 16);
            }
            for (int i = 0; i < 16; i++) {
                due("of " + i, x.base(i), NONE);
            }
        });
        sentence("Terms: NONE: it goes round: the longest way into a round", x -> {
            for (int i = 0; i < 15; i++) {
                x.alias(i + 1);
            }
            x.alias(14);
            due("of the first", x.base(0), NONE);
        });
    }

    private static void platform() {
        sentence("5: NONE if there are 8", x -> {
            for (int i = 0; i < 8; i++) {
                due("platform", x.platform(), i);
            }
            due("ninth", x.platform(), NONE);
            due("again", x.platform(), NONE);
            due("configuration of the eighth", x.configuration(7), 0);
            due("configuration of a ninth", x.configuration(8), NONE);
            due("has of the eighth", x.has(6, 0, 0), true);
        });
        sentence("Terms: for each axis a value or none: a new one has none", x -> {
            start(x);
            for (int value = 0; value < 8; value++) {
                due("axis 0, " + value, x.holds(askingAxis(x, 0, value), 0), false);
                due("axis 7, " + value, x.holds(askingAxis(x, 7, value), 0), false);
            }
        });
    }

    private static void has() {
        sentence("6: false if there is no such platform", x -> {
            due("before the first", x.has(0, 0, 0), false);
            x.platform();
            due("the first", x.has(0, 0, 0), true);
            due("-1", x.has(-1, 0, 0), false);
            due("1", x.has(1, 0, 0), false);
            for (int far : FAR) {
                due("" + far, x.has(far, 0, 0), false);
            }
        });
        sentence("6: false if there is no such axis", x -> {
            x.platform();
            due("-1", x.has(0, -1, 0), false);
            due("8", x.has(0, 8, 0), false);
            for (int far : FAR) {
                due("" + far, x.has(0, far, 0), false);
            }
            due("0", x.has(0, 0, 0), true);
            due("7", x.has(0, 7, 0), true);
        });
        sentence("6: false if there is no such value", x -> {
            x.platform();
            due("-2", x.has(0, 0, -2), false);
            due("8", x.has(0, 0, 8), false);
            for (int far : FAR) {
                due("" + far, x.has(0, 0, far), false);
            }
            due("0", x.has(0, 0, 0), true);
            due("7", x.has(0, 0, 7), true);
        });
        sentence("6: NONE: it has none", x -> {
            x.platform();
            x.has(0, 3, 0);
            x.has(0, 4, 0);
            due("none", x.has(0, 3, NONE), true);
            due("none again", x.has(0, 3, NONE), true);
            x.configuration(0);
            due("gone", x.holds(askingAxis(x, 3, 0), 0), false);
            due("the other axis' stays", x.holds(askingAxis(x, 4, 0), 0), true);
        });
        sentence("6: from now on", x -> {
            x.platform();
            x.has(0, 7, 7);
            x.has(0, 7, 0);
            x.configuration(0);
            due("the new one", x.holds(askingAxis(x, 7, 0), 0), true);
            due("the one before", x.holds(askingAxis(x, 7, 7), 0), false);
        });
        sentence("6: false if a configuration has it", x -> {
            platforms(x, 8);
            x.has(7, 7, 7);
            x.configuration(7);
            due("other value", x.has(7, 7, 6), false);
            due("same value", x.has(7, 7, 7), false);
            due("none", x.has(7, 7, NONE), false);
            due("other axis", x.has(7, 0, 0), false);
            due("nothing came of it", x.holds(askingAxis(x, 7, 7), 0), true);
            due("another platform", x.has(6, 7, 6), true);
            due("the first platform", x.has(0, 7, 6), true);
        });
        sentence("6: refused, it changes nothing", x -> {
            platforms(x, 2);
            x.has(0, 7, 1);
            x.has(1, 0, 1);
            x.has(0, 8, 5);
            x.has(0, 7, 8);
            x.has(0, 7, -2);
            x.has(1, -1, 5);
            due("the first's", x.holds(askingAxis(x, 7, 1), x.configuration(0)), true);
            due("the second's", x.holds(askingAxis(x, 0, 1), x.configuration(1)), true);
        });
    }

    private static void condition() {
        sentence("7: NONE if there are 40", x -> {
            for (int i = 0; i < 40; i++) {
                due("condition", x.condition(), i);
            }
            due("41st", x.condition(), NONE);
            due("asks of the 40th", x.asks(39, true, 0, 0), true);
            due("asks of a 41st", x.asks(40, true, 0, 0), false);
        });
        sentence("7: without askings", x -> {
            start(x);
            due("holds", x.holds(x.condition(), 0), true);
        });
    }

    private static void asks() {
        sentence("8: false if there is no such condition", x -> {
            due("before the first", x.asks(0, true, 0, 0), false);
            x.condition();
            due("the first", x.asks(0, true, 0, 0), true);
            due("-1", x.asks(-1, true, 0, 0), false);
            due("1", x.asks(1, true, 0, 0), false);
            for (int far : FAR) {
                due("" + far, x.asks(far, true, 0, 0), false);
            }
        });
        sentence("8: false if there is no such setting", x -> {
            conditions(x, 1);
            due("before the first", x.asks(0, false, 0, 0), false);
            settings(x, 2, 2, 0);
            due("-1", x.asks(0, false, -1, 0), false);
            due("2", x.asks(0, false, 2, 0), false);
            due("15", x.asks(0, false, 15, 0), false);
            due("16", x.asks(0, false, 16, 0), false);
            for (int far : FAR) {
                due("" + far, x.asks(0, false, far, 0), false);
            }
            due("1", x.asks(0, false, 1, 0), true);
        });
        sentence("8: a setting without a base is one all the same", x -> {
            aliases(x, 0, 9);
            conditions(x, 1);
            due("round", x.asks(0, false, 0, 0), true);
            due("of one not there", x.asks(0, false, 1, 0), true);
        });
        sentence("8: false if there is no such axis", x -> {
            settings(x, 16, 2, 0);
            conditions(x, 1);
            due("-1", x.asks(0, true, -1, 0), false);
            due("8", x.asks(0, true, 8, 0), false);
            for (int far : FAR) {
                due("" + far, x.asks(0, true, far, 0), false);
            }
            due("0", x.asks(0, true, 0, 0), true);
            due("7", x.asks(0, true, 7, 0), true);
        });
        sentence("8: of settings' values 0 .. 7", x -> {
            x.setting(1, 0);
            conditions(x, 1);
            due("-1", x.asks(0, false, 0, -1), false);
            due("8", x.asks(0, false, 0, 8), false);
            for (int far : FAR) {
                due("" + far, x.asks(0, false, 0, far), false);
            }
            due("0", x.asks(0, false, 0, 0), true);
            due("1, which it hasn't", x.asks(0, false, 0, 1), true);
            due("7, which it hasn't", x.asks(0, false, 0, 7), true);
        });
        sentence("8: false if there is no such value of an axis", x -> {
            conditions(x, 1);
            due("-1", x.asks(0, true, 0, -1), false);
            due("8", x.asks(0, true, 0, 8), false);
            for (int far : FAR) {
                due("" + far, x.asks(0, true, 0, far), false);
            }
            due("0", x.asks(0, true, 0, 0), true);
            due("7", x.asks(0, true, 0, 7), true);
        });
        sentence("8: false if it is there", x -> {
            settings(x, 2, 8, 0);
            conditions(x, 2);
            due("setting", x.asks(0, false, 1, 7), true);
            due("setting again", x.asks(0, false, 1, 7), false);
            due("axis of that number", x.asks(0, true, 1, 7), true);
            due("axis again", x.asks(0, true, 1, 7), false);
            due("other value", x.asks(0, false, 1, 6), true);
            due("other setting", x.asks(0, false, 0, 7), true);
            due("other axis", x.asks(0, true, 0, 7), true);
            due("other condition", x.asks(1, false, 1, 7), true);
        });
        sentence("8: false if it is there: as the sixth", x -> {
            x.setting(8, 0);
            conditions(x, 1);
            for (int i = 0; i < 5; i++) {
                x.asks(0, false, 0, i);
            }
            due("the first", x.asks(0, false, 0, 0), false);
            due("the fifth", x.asks(0, false, 0, 4), false);
            due("there is room yet", x.asks(0, false, 0, 5), true);
        });
        sentence("Terms: of like bases: by their settings as told", x -> {
            x.setting(2, 0);
            aliases(x, 0, 1);
            conditions(x, 1);
            for (int i = 0; i < 3; i++) {
                due("told as " + i, x.asks(0, false, i, 1), true);
                due("again", x.asks(0, false, i, 1), false);
            }
            for (int i = 0; i < 3; i++) {
                due("they count three", x.asks(0, true, i, 1), true);
            }
            due("seventh", x.asks(0, true, 3, 1), false);
        });
        sentence("8: false if there are 6", x -> {
            settings(x, 7, 2, 0);
            conditions(x, 2);
            for (int i = 0; i < 6; i++) {
                due("asking " + i, x.asks(0, false, i, 1), true);
            }
            due("seventh, a setting", x.asks(0, false, 6, 1), false);
            due("seventh, an axis", x.asks(0, true, 6, 1), false);
            due("of the next condition", x.asks(1, false, 6, 1), true);
        });
        sentence("8: false if a select has the condition", x -> {
            conditions(x, 2);
            x.target();
            x.select(0);
            x.branch(0, 1, false, 0);
            due("it has it", x.asks(1, true, 0, 0), false);
            due("it hasn't the other", x.asks(0, true, 0, 0), true);
        });
        sentence("8: false if a want has the condition", x -> {
            conditions(x, 2);
            x.target();
            x.wants(0, 1);
            due("it has it", x.asks(1, true, 0, 0), false);
            due("it hasn't the other", x.asks(0, true, 0, 0), true);
        });
        sentence("8: false if a want had the condition", x -> {
            conditions(x, 2);
            x.target();
            x.wants(0, 0);
            x.wants(0, 1);
            due("it had it", x.asks(0, true, 0, 0), false);
            due("it has it", x.asks(1, true, 0, 0), false);
        });
        sentence("8: refused, it adds nothing", x -> {
            x.setting(2, 0);
            start(x);
            x.target();
            conditions(x, 2);
            x.asks(0, false, 0, 8);
            x.asks(0, false, 1, 1);
            x.asks(0, true, 8, 1);
            due("still empty", x.holds(0, 0), true);
            x.wants(0, 1);
            x.asks(1, false, 0, 1);
            due("still empty after the want", x.holds(1, 0), true);
            due("reads", x.reads(0), 0);
        });
        sentence("8: refused, it adds nothing: the seventh", x -> {
            x.platform();
            for (int axis = 0; axis < 6; axis++) {
                x.has(0, axis, 0);
            }
            x.configuration(0);
            conditions(x, 2);
            for (int axis = 0; axis < 7; axis++) {
                x.asks(0, true, axis, 0);
            }
            due("six hold", x.holds(0, 0), true);
            due("the next condition is empty", x.holds(1, 0), true);
        });
    }

    private static void target() {
        sentence("9: NONE if there are 16", x -> {
            for (int i = 0; i < 16; i++) {
                due("target", x.target(), i);
            }
            due("17th", x.target(), NONE);
            due("select of the 16th", x.select(15), 0);
            due("select of a 17th", x.select(16), NONE);
        });
    }

    private static void wants() {
        sentence("10: false if there is no such target", x -> {
            conditions(x, 1);
            due("before the first", x.wants(0, 0), false);
            x.target();
            due("-1", x.wants(-1, 0), false);
            due("1", x.wants(1, 0), false);
            for (int far : FAR) {
                due("" + far, x.wants(far, 0), false);
            }
            due("0", x.wants(0, 0), true);
        });
        sentence("10: false if there is no such condition", x -> {
            x.target();
            due("before the first", x.wants(0, 0), false);
            conditions(x, 1);
            due("-1", x.wants(0, -1), false);
            due("1", x.wants(0, 1), false);
            for (int far : FAR) {
                due("" + far, x.wants(0, far), false);
            }
            due("0", x.wants(0, 0), true);
        });
        sentence("10: the last target and the last condition", x -> {
            targets(x, 16);
            x.setting(2, 0);
            start(x);
            conditions(x, 39);
            x.wants(15, asking(x, 0, 1));
            due("reads", x.reads(15), 1);
            x.expand(15, 0);
            due("left out", x.pair(0, 2), 1);
        });
        sentence("10: in place of the one before", x -> {
            settings(x, 2, 2, 0);
            start(x);
            x.target();
            int no = asking(x, 0, 1);
            int yes = asking(x, 1, 0);
            x.wants(0, no);
            due("the second", x.wants(0, yes), true);
            due("reads it alone", x.reads(0), 2);
            due("it holds", expanded(x, 0, 0), "1 0:00");
            x.wants(0, no);
            due("the first again", expanded(x, 0, 0), "1 0:00!");
        });
        sentence("10: refused, the one before stays and the condition is free", x -> {
            x.setting(2, 0);
            start(x);
            x.target();
            x.wants(0, asking(x, 0, 1));
            conditions(x, 1);
            x.wants(1, 1);
            x.wants(0, 2);
            x.wants(0, -1);
            due("left out", expanded(x, 0, 0), "1 0:0-1!");
            due("asks", x.asks(1, false, 0, 1), true);
        });
    }

    private static void select() {
        sentence("11: NONE if there is no such target", x -> {
            due("before the first", x.select(0), NONE);
            x.target();
            due("-1", x.select(-1), NONE);
            due("1", x.select(1), NONE);
            for (int far : FAR) {
                due("" + far, x.select(far), NONE);
            }
            due("the numbers go on", x.select(0), 0);
        });
        sentence("11: NONE if there are 24", x -> {
            targets(x, 16);
            for (int i = 0; i < 24; i++) {
                due("select", x.select(i % 16), i);
            }
            due("25th", x.select(0), NONE);
            due("25th of another target", x.select(15), NONE);
            due("otherwise of the 24th", x.otherwise(23, 0), true);
            due("otherwise of a 25th", x.otherwise(24, 0), false);
        });
        sentence("11: without branches and otherwise", x -> {
            start(x);
            x.target();
            due("choose", x.choose(x.select(0), 0), 0);
        });
    }

    private static void branch() {
        sentence("12: false if there is no such select", x -> {
            conditions(x, 1);
            x.target();
            due("before the first", x.branch(0, 0, false, 0), false);
            x.select(0);
            due("-1", x.branch(-1, 0, false, 0), false);
            due("1", x.branch(1, 0, false, 0), false);
            for (int far : FAR) {
                due("" + far, x.branch(far, 0, false, 0), false);
            }
            due("0", x.branch(0, 0, false, 0), true);
        });
        sentence("12: false if there is no such condition", x -> {
            x.target();
            x.select(0);
            due("before the first", x.branch(0, 0, false, 0), false);
            conditions(x, 1);
            due("-1", x.branch(0, -1, false, 0), false);
            due("1", x.branch(0, 1, false, 0), false);
            for (int far : FAR) {
                due("" + far, x.branch(0, far, false, 0), false);
            }
            due("0", x.branch(0, 0, false, 0), true);
        });
        sentence("12: false if there are 8", x -> {
            start(x);
            conditions(x, 1);
            x.target();
            x.select(0);
            x.select(0);
            for (int i = 0; i < 8; i++) {
                due("branch " + i, x.branch(0, 0, false, 3), true);
            }
            due("ninth", x.branch(0, 0, false, 4), false);
            due("the ninth isn't there", choice(x, 0, 0), "3");
            due("nor in the next select", x.choose(1, 0), 0);
            due("of the next select", x.branch(1, 0, false, 5), true);
        });
        sentence("12: the last condition of the last select's last branch", x -> {
            x.setting(2, 0);
            start(x);
            targets(x, 16);
            conditions(x, 39);
            int last = asking(x, 0, 1);
            for (int i = 0; i < 24; i++) {
                x.select(15);
            }
            for (int i = 0; i < 8; i++) {
                x.branch(23, i < 7 ? 0 : last, false, i < 7 ? 0 : 9);
            }
            due("it doesn't hold", choice(x, 23, 0), "0");
            due("it holds", choice(x, 23, x.set(0, 0, 1)), "9");
            due("reads", x.reads(15), 1);
        });
        sentence("Terms: a value (an int)", x -> {
            start(x);
            conditions(x, 1);
            x.target();
            for (int value : new int[] {Integer.MIN_VALUE, -1, 0, Integer.MAX_VALUE}) {
                int select = x.select(0);
                due("branch", x.branch(select, 0, false, value), true);
                due("choose", x.choose(select, 0), 1);
                due("chosen", x.chosen(0), value);
            }
        });
        sentence("12: refused, it adds nothing and the condition is free", x -> {
            x.setting(2, 0);
            start(x);
            conditions(x, 2);
            x.target();
            x.select(0);
            x.branch(1, 0, false, 1);
            x.branch(0, 0, true, 0);
            x.branch(0, 0, true, 1);
            x.branch(0, 2, false, 1);
            due("choose", x.choose(0, 0), 0);
            due("asks", x.asks(0, false, 0, 1), true);
            for (int i = 0; i < 8; i++) {
                x.branch(0, 0, false, 0);
            }
            x.branch(0, 1, false, 0);
            due("asks after a ninth", x.asks(1, false, 0, 1), true);
        });
    }

    private static void nested() {
        sentence("12: false if there is no such select within", x -> {
            conditions(x, 1);
            x.target();
            x.select(0);
            x.select(0);
            due("-1", x.branch(1, 0, true, -1), false);
            due("2", x.branch(1, 0, true, 2), false);
            for (int far : FAR) {
                due("" + far, x.branch(1, 0, true, far), false);
            }
            due("0", x.branch(1, 0, true, 0), true);
        });
        sentence("Terms: an earlier select", x -> {
            conditions(x, 1);
            x.target();
            for (int i = 0; i < 3; i++) {
                x.select(0);
            }
            due("itself", x.branch(1, 0, true, 1), false);
            due("the first in itself", x.branch(0, 0, true, 0), false);
            due("the next", x.branch(1, 0, true, 2), false);
            due("the one before", x.branch(1, 0, true, 0), true);
        });
        sentence("Terms: a select of the same target", x -> {
            conditions(x, 1);
            targets(x, 2);
            x.select(0);
            x.select(1);
            x.select(0);
            due("of another", x.branch(1, 0, true, 0), false);
            due("of another, from the first", x.branch(2, 0, true, 1), false);
            due("of the same", x.branch(2, 0, true, 0), true);
        });
        sentence("Terms: within which none is", x -> {
            conditions(x, 1);
            x.target();
            for (int i = 0; i < 4; i++) {
                x.select(0);
            }
            x.branch(1, 0, true, 0);
            due("one with one within", x.branch(2, 0, true, 1), false);
            due("the innermost in a second one", x.branch(2, 0, true, 0), true);
            due("the same again", x.branch(2, 0, true, 0), true);
        });
        sentence("Terms: one that is within another has none within itself", x -> {
            start(x);
            conditions(x, 1);
            x.target();
            for (int i = 0; i < 3; i++) {
                x.select(0);
            }
            x.branch(2, 0, true, 1);
            due("one within it", x.branch(1, 0, true, 0), false);
            due("a value in it", x.branch(1, 0, false, 5), true);
            due("choose", choice(x, 2, 0), "5");
        });
        sentence("Terms: one that is within another: a refused branch puts none within", x -> {
            conditions(x, 1);
            x.target();
            for (int i = 0; i < 3; i++) {
                x.select(0);
            }
            for (int i = 0; i < 8; i++) {
                x.branch(2, 0, false, 0);
            }
            due("a ninth", x.branch(2, 0, true, 1), false);
            due("without a condition", x.branch(2, 1, true, 1), false);
            due("so one is within it", x.branch(1, 0, true, 0), true);
        });
        sentence("12: false if there are 8: nested ones too", x -> {
            conditions(x, 1);
            x.target();
            x.select(0);
            x.select(0);
            for (int i = 0; i < 8; i++) {
                due("nested " + i, x.branch(1, 0, true, 0), true);
            }
            due("ninth", x.branch(1, 0, true, 0), false);
        });
    }

    private static void otherwise() {
        sentence("13: false if there is none such", x -> {
            x.target();
            due("before the first", x.otherwise(0, 0), false);
            x.select(0);
            due("-1", x.otherwise(-1, 0), false);
            due("1", x.otherwise(1, 0), false);
            for (int far : FAR) {
                due("" + far, x.otherwise(far, 0), false);
            }
            start(x);
            due("nothing came of it", x.choose(0, 0), 0);
            due("0", x.otherwise(0, 0), true);
        });
        sentence("13: any int", x -> {
            start(x);
            x.target();
            x.select(0);
            for (int value : new int[] {Integer.MIN_VALUE, -1, 0, Integer.MAX_VALUE}) {
                due("otherwise", x.otherwise(0, value), true);
                due("choose", x.choose(0, 0), 1);
                due("chosen", x.chosen(0), value);
            }
        });
    }

    private static void configuration() {
        sentence("14: NONE if there is none such", x -> {
            due("before the first", x.configuration(0), NONE);
            x.platform();
            due("-1", x.configuration(-1), NONE);
            due("1", x.configuration(1), NONE);
            for (int far : FAR) {
                due("" + far, x.configuration(far), NONE);
            }
            due("the numbers go on", x.configuration(0), 0);
        });
        sentence("14: with all fallbacks", x -> {
            for (int i = 0; i < 16; i++) {
                x.setting(8, i % 8);
            }
            platforms(x, 8);
            due("configuration", x.configuration(7), 0);
            for (int i = 0; i < 16; i++) {
                due("value of " + i, x.value(0, i), i % 8);
            }
        });
        sentence("14: without settings", x -> {
            platforms(x, 8);
            for (int i = 0; i < 8; i++) {
                due("configuration", x.configuration(7 - i), i);
            }
            due("like ones are one", x.configuration(7), 0);
            due("value", x.value(0, 0), NONE);
        });
        sentence("14: NONE if there would be more than 60", x -> {
            settings(x, 2, 8, 0);
            platforms(x, 2);
            x.configuration(0);
            fill(x, 0, 1, 59);
            due("the 60th", x.configuration(1), 59);
            x.platform();
            due("the 61st", x.configuration(2), NONE);
            due("it isn't there", x.value(60, 0), NONE);
            due("its platform is free", x.has(2, 0, 0), true);
        });
        sentence("14: like ones are one, when there are 60 too", x -> {
            settings(x, 2, 8, 3);
            platforms(x, 2);
            x.configuration(0);
            x.configuration(1);
            fill(x, 0, 1, 60);
            due("the first", x.configuration(0), 0);
            due("the second", x.configuration(1), 1);
        });
    }

    private static void set() {
        sentence("15: NONE if there is no such configuration", x -> {
            x.setting(2, 0);
            due("before the first", x.set(0, 0, 0), NONE);
            start(x);
            due("-1", x.set(-1, 0, 0), NONE);
            due("1", x.set(1, 0, 0), NONE);
            for (int far : FAR) {
                due("" + far, x.set(far, 0, 0), NONE);
            }
            due("0", x.set(0, 0, 0), 0);
        });
        sentence("15: NONE if there is no such setting", x -> {
            start(x);
            due("before the first", x.set(0, 0, 0), NONE);
            x.setting(2, 0);
            due("-1", x.set(0, -1, 0), NONE);
            due("1", x.set(0, 1, 0), NONE);
            due("16", x.set(0, 16, 0), NONE);
            for (int far : FAR) {
                due("" + far, x.set(0, far, 0), NONE);
            }
        });
        sentence("15: NONE if there is no base", x -> {
            aliases(x, 0, 9);
            start(x);
            due("round", x.set(0, 0, 0), NONE);
            due("of one not there", x.set(0, 1, 0), NONE);
        });
        sentence("15: NONE if it isn't one of its values", x -> {
            x.setting(3, 0);
            x.alias(0);
            x.setting(8, 0);
            start(x);
            due("-1", x.set(0, 0, -1), NONE);
            due("3 of 3", x.set(0, 0, 3), NONE);
            due("3 of 3 by an alias", x.set(0, 1, 3), NONE);
            due("8 of 8", x.set(0, 2, 8), NONE);
            for (int far : FAR) {
                due("" + far, x.set(0, 0, far), NONE);
            }
            due("2 of 3 by an alias", x.set(0, 1, 2), 1);
            due("7 of 8", x.set(0, 2, 7), 2);
        });
        sentence("15: like one but for a setting's base: first and last", x -> {
            settings(x, 16, 8, 0);
            platforms(x, 8);
            x.configuration(7);
            due("the last", x.set(0, 15, 7), 1);
            due("the first", x.set(1, 0, 7), 2);
            for (int i = 0; i < 16; i++) {
                due("value of " + i, x.value(2, i), i == 0 || i == 15 ? 7 : 0);
            }
            due("its platform", x.set(x.set(2, 0, 0), 15, 0), x.configuration(7));
            due("the one before stays", x.value(0, 15), 0);
        });
        sentence("15: like ones are one", x -> {
            settings(x, 2, 8, 4);
            start(x);
            due("what it has", x.set(0, 0, 4), 0);
            due("new", x.set(0, 0, 5), 1);
            due("the same again", x.set(0, 0, 5), 1);
            due("new of the new", x.set(1, 1, 5), 2);
            due("the other way", x.set(x.set(0, 1, 5), 0, 5), 2);
            due("back", x.set(1, 0, 4), 0);
        });
        sentence("15: NONE if there would be more than 60", x -> {
            settings(x, 3, 8, 0);
            start(x);
            fill(x, 0, 1, 59);
            due("the 60th", x.set(0, 2, 1), 59);
            due("the 61st", x.set(0, 2, 2), NONE);
            due("it isn't there", x.value(60, 2), NONE);
            due("one of the 60", x.set(59, 2, 0), 0);
            due("the 60th again", x.set(0, 2, 1), 59);
        });
    }

    private static void value() {
        sentence("16: NONE if there is no such configuration", x -> {
            x.setting(2, 1);
            due("before the first", x.value(0, 0), NONE);
            start(x);
            due("-1", x.value(-1, 0), NONE);
            due("1", x.value(1, 0), NONE);
            for (int far : FAR) {
                due("" + far, x.value(far, 0), NONE);
            }
            due("0", x.value(0, 0), 1);
        });
        sentence("16: NONE if there is no such setting", x -> {
            start(x);
            due("before the first", x.value(0, 0), NONE);
            x.setting(2, 1);
            due("-1", x.value(0, -1), NONE);
            due("1", x.value(0, 1), NONE);
            due("16", x.value(0, 16), NONE);
            for (int far : FAR) {
                due("" + far, x.value(0, far), NONE);
            }
        });
        sentence("16: NONE if there is no base", x -> {
            aliases(x, 0, 2);
            start(x);
            due("round", x.value(0, 0), NONE);
            due("of one not there", x.value(0, 1), NONE);
            x.setting(8, 7);
            due("of one that came", x.value(0, 1), 7);
        });
    }

    private static void holds() {
        sentence("17: false if there is no such condition", x -> {
            start(x);
            due("before the first", x.holds(0, 0), false);
            conditions(x, 1);
            due("-1", x.holds(-1, 0), false);
            due("1", x.holds(1, 0), false);
            for (int far : FAR) {
                due("" + far, x.holds(far, 0), false);
            }
            due("0", x.holds(0, 0), true);
        });
        sentence("17: false if there is no such configuration", x -> {
            conditions(x, 1);
            due("before the first", x.holds(0, 0), false);
            start(x);
            due("-1", x.holds(0, -1), false);
            due("1", x.holds(0, 1), false);
            for (int far : FAR) {
                due("" + far, x.holds(0, far), false);
            }
        });
        sentence("Terms: holds if all askings do: each of six alone doesn't", x -> {
            settings(x, 3, 2, 0);
            x.platform();
            int[] axes = {0, 4, 7};
            for (int axis : axes) {
                x.has(0, axis, 1);
            }
            for (int i = 0; i < 3; i++) {
                x.platform();
                for (int axis : axes) {
                    x.has(i + 1, axis, axis == axes[i] ? 0 : 1);
                }
            }
            int six = askingAll(x, 0, 0, 1, 2);
            for (int axis : axes) {
                x.asks(six, true, axis, 1);
            }
            x.configuration(0);
            due("all six", x.holds(six, 0), true);
            for (int i = 0; i < 3; i++) {
                due("not setting " + i, x.holds(six, x.set(0, i, 1)), false);
                due("not axis " + axes[i], x.holds(six, x.configuration(i + 1)), false);
            }
        });
        sentence("Terms: holds if all askings do: two values of one setting", x -> {
            x.setting(2, 0);
            start(x);
            int both = asking(x, 0, 0);
            x.asks(both, false, 0, 1);
            due("with 0", x.holds(both, 0), false);
            due("with 1", x.holds(both, x.set(0, 0, 1)), false);
        });
        sentence("Terms: holds if all askings do: a value that the setting hasn't", x -> {
            x.setting(1, 0);
            start(x);
            for (int value = 0; value < 8; value++) {
                due("value " + value, x.holds(asking(x, 0, value), 0), value == 0);
            }
        });
        sentence("Terms: holds if all askings do: the last setting and axis on the last platform", x -> {
            settings(x, 16, 8, 7);
            platforms(x, 8);
            x.has(7, 7, 7);
            int both = asking(x, 15, 7);
            x.asks(both, true, 7, 7);
            due("holds", x.holds(both, x.configuration(7)), true);
            due("on another one", x.holds(both, x.configuration(6)), false);
            due("with another value", x.holds(both, x.set(0, 15, 3)), false);
        });
        sentence("Terms: one about a setting without a base doesn't", x -> {
            aliases(x, 0, 2);
            start(x);
            int round = asking(x, 0, 0);
            int later = asking(x, 1, 0);
            due("round", x.holds(round, 0), false);
            due("of one not there", x.holds(later, 0), false);
            x.setting(2, 0);
            due("of one that came", x.holds(later, 0), true);
            due("round still", x.holds(round, 0), false);
        });
    }

    private static void choose() {
        sentence("18: NONE if there is no such select", x -> {
            start(x);
            x.target();
            due("before the first", x.choose(0, 0), NONE);
            x.select(0);
            due("-1", x.choose(-1, 0), NONE);
            due("1", x.choose(1, 0), NONE);
            for (int far : FAR) {
                due("" + far, x.choose(far, 0), NONE);
            }
            due("0", x.choose(0, 0), 0);
        });
        sentence("18: NONE if there is no such configuration", x -> {
            x.target();
            x.select(0);
            due("before the first", x.choose(0, 0), NONE);
            start(x);
            due("-1", x.choose(0, -1), NONE);
            due("1", x.choose(0, 1), NONE);
            for (int far : FAR) {
                due("" + far, x.choose(0, far), NONE);
            }
        });
        sentence("Terms: none: otherwise", x -> {
            x.setting(2, 0);
            start(x);
            x.target();
            x.select(0);
            due("no branch, no otherwise", choice(x, 0, 0), "nothing");
            x.branch(0, asking(x, 0, 1), false, 3);
            due("none holds, no otherwise", choice(x, 0, 0), "nothing");
            x.otherwise(0, 4);
            due("none holds", choice(x, 0, 0), "4");
            due("one holds", choice(x, 0, x.set(0, 0, 1)), "3");
        });
        sentence("Terms: none: otherwise, not where nothing is given within", x -> {
            start(x);
            conditions(x, 1);
            x.target();
            x.select(0);
            x.select(0);
            x.branch(1, 0, true, 0);
            x.otherwise(1, 4);
            due("nothing within", choice(x, 1, 0), "nothing");
            x.otherwise(0, 5);
            due("otherwise within", choice(x, 1, 0), "5");
        });
    }

    /** SETTINGS 0, 1, 2 that all have 1, an ALIAS of each, a PLATFORM with 1 of AXIS 0, a TARGET with a SELECT. */
    private static void allOnes(SelectConfig x) {
        settings(x, 3, 2, 1);
        aliases(x, 0, 1, 2);
        x.platform();
        x.has(0, 0, 1);
        x.configuration(0);
        x.target();
        x.select(0);
    }

    private static void moreSpecial() {
        sentence("Terms: more special if it has all its askings and more: than an empty one", x -> {
            allOnes(x);
            x.branch(0, asking(x, 0, 1), false, 1);
            x.branch(0, x.condition(), false, 2);
            due("choose", choice(x, 0, 0), "1");
        });
        sentence("Terms: and more: like askings are no more", x -> {
            allOnes(x);
            x.branch(0, askingAll(x, 1, 0, 1), false, 1);
            x.branch(0, askingAll(x, 1, 1, 0), false, 2);
            due("choose", choice(x, 0, 0), "0/1");
        });
        sentence("Terms: and more: one condition in two branches", x -> {
            allOnes(x);
            int condition = x.condition();
            x.branch(0, condition, false, 1);
            x.branch(0, condition, false, 2);
            due("choose", choice(x, 0, 0), "0/1");
        });
        sentence("Terms: has all its askings: more of others is not enough", x -> {
            allOnes(x);
            x.branch(0, asking(x, 0, 1), false, 1);
            x.branch(0, askingAll(x, 1, 1, 2), false, 2);
            due("choose", choice(x, 0, 0), "0/1");
        });
        sentence("Terms: by bases: as aliases told", x -> {
            allOnes(x);
            x.branch(0, asking(x, 3, 1), false, 1);
            x.branch(0, askingAll(x, 1, 0, 4), false, 2);
            due("choose", choice(x, 0, 0), "2");
        });
        sentence("Terms: as sets: one base twice is once", x -> {
            allOnes(x);
            x.branch(0, asking(x, 0, 1), false, 1);
            x.branch(0, askingAll(x, 1, 0, 3), false, 2);
            due("choose", choice(x, 0, 0), "0/1");
        });
        sentence("Terms: as sets: more by number, less by bases", x -> {
            allOnes(x);
            x.branch(0, askingAll(x, 1, 0, 3), false, 1);
            x.branch(0, askingAll(x, 1, 0, 1), false, 2);
            due("choose", choice(x, 0, 0), "2");
        });
        sentence("Terms: its askings: a setting and an axis of one number are two", x -> {
            allOnes(x);
            x.branch(0, asking(x, 0, 1), false, 1);
            x.branch(0, askingAxis(x, 0, 1), false, 2);
            due("neither", choice(x, 0, 0), "0/1");
            int both = asking(x, 3, 1);
            x.asks(both, true, 0, 1);
            x.branch(0, both, false, 3);
            due("both", choice(x, 0, 0), "3");
        });
        sentence("Terms: of the branches whose conditions hold: another one is more special to none", x -> {
            allOnes(x);
            x.branch(0, asking(x, 0, 1), false, 1);
            int not = asking(x, 0, 1);
            x.asks(not, false, 1, 0);
            x.branch(0, not, false, 2);
            due("choose", choice(x, 0, 0), "1");
        });
        sentence("Terms: those without a base are like none: it doesn't hold, so it outdoes none", x -> {
            allOnes(x);
            x.alias(15);
            x.branch(0, asking(x, 0, 1), false, 1);
            x.branch(0, askingAll(x, 1, 0, 6), false, 2);
            due("choose", choice(x, 0, 0), "1");
        });
        sentence("Terms: to which none of these is more special: one of more, over several steps", x -> {
            allOnes(x);
            x.branch(0, askingAll(x, 1, 0, 1, 2), false, 3);
            x.branch(0, x.condition(), false, 0);
            x.branch(0, askingAll(x, 1, 0, 1), false, 2);
            x.branch(0, asking(x, 0, 1), false, 1);
            due("choose", choice(x, 0, 0), "3");
            x.branch(0, askingAll(x, 1, 1, 2, 3), false, 3);
            due("the same of both", choice(x, 0, 0), "3");
        });
        sentence("Terms: more special: six askings to five", x -> {
            settings(x, 7, 2, 1);
            start(x);
            x.target();
            x.select(0);
            x.branch(0, askingAll(x, 1, 0, 1, 2, 3, 4), false, 5);
            x.branch(0, askingAll(x, 1, 5, 4, 3, 2, 1, 0), false, 6);
            due("choose", choice(x, 0, 0), "6");
            x.branch(0, askingAll(x, 1, 6, 4, 3, 2, 1, 0), false, 7);
            due("two of six", choice(x, 0, 0), "1/2");
        });
    }

    /** A TARGET with SELECTS that give, with the CONDITION 0: 0 NOTHING, 1 a CLASH of 0 and 2, 2 a CLASH of 0 and 1, 3 the VALUE 0. */
    private static void givers(SelectConfig x) {
        start(x);
        conditions(x, 1);
        x.target();
        for (int i = 0; i < 4; i++) {
            x.select(0);
        }
        x.branch(1, 0, false, 5);
        x.branch(1, 0, false, 5);
        x.branch(1, 0, false, 6);
        x.branch(2, 0, false, 7);
        x.branch(2, 0, false, 8);
        x.branch(3, 0, false, 0);
    }

    /** What a new SELECT gives that has these ones within. */
    private static String within(SelectConfig x, int... selects) {
        int outer = x.select(0);
        for (int inner : selects) {
            x.branch(outer, 0, true, inner);
        }
        return choice(x, outer, 0);
    }

    private static void clash() {
        sentence("Terms: if it is the same of all", x -> {
            start(x);
            conditions(x, 1);
            x.target();
            x.select(0);
            for (int i = 0; i < 8; i++) {
                x.branch(0, 0, false, -1);
            }
            due("choose", choice(x, 0, 0), "-1");
        });
        sentence("Terms: the first one and the first that gives something else: the last of 8", x -> {
            start(x);
            conditions(x, 1);
            x.target();
            x.select(0);
            for (int i = 0; i < 8; i++) {
                x.branch(0, 0, false, i == 7 ? 2 : 1);
            }
            due("choose", choice(x, 0, 0), "0/7");
        });
        sentence("Terms: the first one and the first that gives something else: not one that is outdone", x -> {
            x.setting(2, 1);
            start(x);
            x.target();
            x.select(0);
            int less = x.condition();
            int more = asking(x, 0, 1);
            x.branch(0, less, false, 1);
            x.branch(0, more, false, 2);
            x.branch(0, less, false, 3);
            x.branch(0, more, false, 2);
            x.branch(0, more, false, 4);
            x.branch(0, more, false, 5);
            due("choose", choice(x, 0, 0), "1/4");
        });
        sentence("Terms: values are told apart in all their bits", x -> {
            start(x);
            conditions(x, 1);
            x.target();
            int[][] apart = {{0, Integer.MIN_VALUE}, {-1, Integer.MAX_VALUE}, {1, 257}, {0, -1}};
            for (int[] values : apart) {
                int select = x.select(0);
                x.branch(select, 0, false, values[0]);
                x.branch(select, 0, false, values[1]);
                due(values[0] + " and " + values[1], choice(x, select, 0), "0/1");
            }
        });
        sentence("Terms: nothing is like itself", x -> {
            givers(x);
            due("twice", within(x, 0, 0), "nothing");
        });
        sentence("Terms: nothing is something", x -> {
            givers(x);
            due("and the value 0", within(x, 0, 3), "0/1");
            due("the value 0 and it", within(x, 3, 3, 0), "0/2");
        });
        sentence("Terms: a clash is like itself", x -> {
            givers(x);
            due("twice the same", within(x, 1, 1), "0/2");
            due("of other branches", within(x, 1, 2), "0/2");
            due("of other branches first", within(x, 2, 1), "0/1");
        });
        sentence("Terms: a clash is something", x -> {
            givers(x);
            due("and nothing", within(x, 1, 1, 0), "0/2");
            due("nothing and it", within(x, 0, 0, 0, 1), "0/3");
            due("and a value", within(x, 1, 3), "0/1");
            due("a value and it", within(x, 3, 3, 3, 3, 2), "0/4");
        });
    }

    private static void chosen() {
        sentence("19: the latest choose that wasn't NONE", x -> {
            start(x);
            x.target();
            x.otherwise(x.select(0), 6);
            x.choose(0, 0);
            x.choose(0, 1);
            x.choose(1, 0);
            x.choose(-1, -1);
            due("chosen", x.chosen(0), 6);
            x.choose(x.select(0), 0);
            due("nothing is not NONE", x.chosen(0), NONE);
        });
        sentence("19: before any choose, and if all were NONE", x -> {
            due("before", x.chosen(0), NONE);
            x.choose(0, 0);
            due("chosen 0", x.chosen(0), NONE);
            due("chosen 1", x.chosen(1), NONE);
        });
        sentence("19: if it was 0, NONE", x -> {
            givers(x);
            x.choose(1, 0);
            due("choose", x.choose(0, 0), 0);
            due("chosen 0", x.chosen(0), NONE);
            due("chosen 1", x.chosen(1), NONE);
        });
        sentence("19: if it was 1, the value (side 0)", x -> {
            givers(x);
            x.choose(1, 0);
            due("choose", x.choose(3, 0), 1);
            due("chosen 0", x.chosen(0), 0);
            due("chosen 1", x.chosen(1), NONE);
        });
        sentence("19: NONE of another side", x -> {
            givers(x);
            x.choose(3, 0);
            for (int side : new int[] {-1, 1, 2, 3, Integer.MIN_VALUE, Integer.MAX_VALUE}) {
                due("of a value " + side, x.chosen(side), NONE);
            }
            x.choose(1, 0);
            for (int side : new int[] {-1, 2, 3, Integer.MIN_VALUE, Integer.MAX_VALUE}) {
                due("of a clash " + side, x.chosen(side), NONE);
            }
            due("side 0", x.chosen(0), 0);
            due("side 1", x.chosen(1), 2);
        });
        sentence("19: of the select asked, or the one within it where it began", x -> {
            givers(x);
            int outer = x.select(0);
            x.branch(outer, 0, true, 1);
            due("within", choice(x, outer, 0), "0/2");
            x.branch(outer, 0, true, 1);
            x.branch(outer, 0, false, 1);
            x.branch(outer, 0, false, 1);
            due("of the select asked", choice(x, outer, 0), "0/2");
            int other = x.select(0);
            x.branch(other, 0, true, 2);
            x.branch(other, 0, true, 2);
            x.branch(other, 0, true, 2);
            due("within, alone", choice(x, other, 0), "0/1");
            x.branch(other, 0, false, 1);
            due("of the one asked, alone", choice(x, other, 0), "0/3");
        });
    }

    private static void need() {
        sentence("20: NONE if there are no such targets: the first", x -> {
            due("before the first", x.need(0, 0), NONE);
            targets(x, 2);
            due("-1", x.need(-1, 0), NONE);
            due("2", x.need(2, 0), NONE);
            for (int far : FAR) {
                due("" + far, x.need(far, 0), NONE);
            }
            due("the numbers go on", x.need(1, 0), 0);
        });
        sentence("20: NONE if there are no such targets: the other", x -> {
            targets(x, 2);
            due("-1", x.need(0, -1), NONE);
            due("2", x.need(0, 2), NONE);
            for (int far : FAR) {
                due("" + far, x.need(0, far), NONE);
            }
            due("the numbers go on", x.need(0, 1), 0);
        });
        sentence("20: NONE if there are 40", x -> {
            x.setting(2, 0);
            targets(x, 16);
            for (int i = 0; i < 40; i++) {
                due("need", x.need(15, i % 15), i);
            }
            due("41st", x.need(0, 15), NONE);
            due("change of the 40th", x.change(39, 0, 1), true);
            due("change of a 41st", x.change(40, 0, 1), false);
        });
        sentence("20: NONE if there are 40: the 41st leads nowhere, the 40th does", x -> {
            start(x);
            targets(x, 3);
            for (int i = 0; i < 39; i++) {
                x.need(0, 0);
            }
            x.need(0, 1);
            x.need(0, 2);
            due("expand", expanded(x, 0, 0), "2 0:-1-1 1:-1-1");
        });
        sentence("Terms: a target needs another one (or itself)", x -> {
            x.setting(8, 0);
            start(x);
            x.target();
            read(x, 0, asking(x, 0, 0));
            due("itself", x.need(0, 0), 0);
            due("expand", x.expand(0, 0), 1);
            x.change(0, 0, 128);
            due("expand with a change", x.expand(0, 0), 2);
            due("the other configuration", x.value(x.pair(1, 1), 0), 7);
        });
    }

    private static void change() {
        sentence("21: false if there is no such need", x -> {
            x.setting(2, 0);
            x.target();
            due("before the first", x.change(0, 0, 1), false);
            x.need(0, 0);
            due("-1", x.change(-1, 0, 1), false);
            due("1", x.change(1, 0, 1), false);
            for (int far : FAR) {
                due("" + far, x.change(far, 0, 1), false);
            }
            due("0", x.change(0, 0, 1), true);
        });
        sentence("21: false if there is no such setting", x -> {
            x.target();
            x.need(0, 0);
            due("before the first", x.change(0, 0, 1), false);
            x.setting(2, 0);
            due("-1", x.change(0, -1, 1), false);
            due("1", x.change(0, 1, 1), false);
            due("16", x.change(0, 16, 1), false);
            for (int far : FAR) {
                due("" + far, x.change(0, far, 1), false);
            }
            due("0", x.change(0, 0, 1), true);
        });
        sentence("21: a setting without a base is one all the same", x -> {
            aliases(x, 0, 9);
            x.target();
            x.need(0, 0);
            due("round", x.change(0, 0, 1), true);
            due("of one not there", x.change(0, 1, 1), true);
            due("they count", x.change(0, 0, 1), false);
        });
        sentence("21: at least one", x -> {
            x.setting(2, 0);
            x.target();
            x.need(0, 0);
            due("none", x.change(0, 0, 0), false);
            due("bit 0", x.change(0, 0, 1), true);
            due("bit 7, which the base hasn't", x.change(0, 0, 128), true);
        });
        sentence("21: bits 0 .. 7 (others mean nothing): alone they are none", x -> {
            x.setting(2, 0);
            x.target();
            x.need(0, 0);
            due("bit 8", x.change(0, 0, 256), false);
            due("bit 31", x.change(0, 0, Integer.MIN_VALUE), false);
            due("all others", x.change(0, 0, -256), false);
            due("all", x.change(0, 0, -1), true);
        });
        sentence("21: bits 0 .. 7 (others mean nothing): beside some they make nothing", x -> {
            x.setting(8, 0);
            start(x);
            x.target();
            read(x, 0, asking(x, 0, 0));
            x.need(0, 0);
            x.change(0, 0, 0xFFFFFF00 | 128 | 2);
            due("expand", expanded(x, 0, 0), "3 0:0-1 0:1-1 0:7-1");
        });
        sentence("21: false if there are 2", x -> {
            settings(x, 3, 2, 0);
            start(x);
            x.target();
            read(x, 0, askingAll(x, 1, 0, 1, 2));
            x.need(0, 0);
            x.need(0, 0);
            due("first", x.change(0, 0, 2), true);
            due("second", x.change(0, 1, 2), true);
            due("third", x.change(0, 2, 2), false);
            due("expand", expanded(x, 0, 0), "2 0:00 0:11");
            due("of the next need", x.change(1, 2, 1), true);
        });
        sentence("21: refused, it adds nothing", x -> {
            settings(x, 2, 2, 0);
            start(x);
            x.target();
            read(x, 0, askingAll(x, 1, 0, 1));
            x.need(0, 0);
            x.change(0, 0, 0);
            x.change(0, 2, 2);
            x.change(1, 0, 2);
            due("expand", expanded(x, 0, 0), "1 0:00");
            due("first", x.change(0, 0, 2), true);
            due("second", x.change(0, 1, 2), true);
        });
    }

    private static void reads() {
        sentence("22: 0 if there is none such", x -> {
            x.setting(2, 0);
            due("before the first", x.reads(0), 0);
            x.target();
            read(x, 0, asking(x, 0, 0));
            due("0", x.reads(0), 1);
            due("-1", x.reads(-1), 0);
            due("1", x.reads(1), 0);
            for (int far : FAR) {
                due("" + far, x.reads(far), 0);
            }
        });
        sentence("22: as bits: the first and the last setting", x -> {
            settings(x, 16, 1, 0);
            targets(x, 16);
            x.wants(15, askingAll(x, 0, 0, 15));
            due("reads", x.reads(15), 0x8001);
        });
        sentence("22: as bits: all 16", x -> {
            settings(x, 16, 1, 0);
            x.target();
            read(x, 0, askingAll(x, 7, 0, 1, 2, 3, 4, 5));
            read(x, 0, askingAll(x, 7, 6, 7, 8, 9, 10));
            x.wants(0, askingAll(x, 7, 11, 12, 13, 14, 15));
            due("reads", x.reads(0), 0xFFFF);
        });
        sentence("Terms: reads the bases: no axis, nothing without a base, once for like ones", x -> {
            settings(x, 2, 2, 0);
            aliases(x, 1, 3, 9);
            x.target();
            int odd = askingAll(x, 0, 1, 2, 3, 4);
            x.asks(odd, true, 0, 0);
            x.asks(odd, true, 7, 0);
            x.wants(0, odd);
            due("reads", x.reads(0), 2);
        });
        sentence("Terms: reads the bases: one that comes later", x -> {
            x.alias(2);
            x.target();
            x.wants(0, asking(x, 0, 0));
            due("not yet", x.reads(0), 0);
            x.setting(2, 0);
            x.setting(2, 0);
            due("now", x.reads(0), 4);
        });
        sentence("Terms: conditions of its selects: all of them, nested ones too", x -> {
            settings(x, 4, 2, 0);
            x.target();
            x.select(0);
            x.select(0);
            x.branch(0, asking(x, 0, 0), false, 0);
            x.branch(1, asking(x, 1, 0), true, 0);
            x.branch(1, asking(x, 2, 0), false, 0);
            due("reads", x.reads(0), 7);
        });
        sentence("Terms: all the way: the longest, told from its start", x -> {
            x.setting(2, 0);
            targets(x, 16);
            for (int i = 0; i < 15; i++) {
                x.need(i, i + 1);
            }
            x.wants(15, asking(x, 0, 0));
            for (int i = 0; i < 16; i++) {
                due("reads of " + i, x.reads(i), 1);
            }
        });
        sentence("Terms: all the way: the longest, told from its end", x -> {
            x.setting(2, 0);
            targets(x, 16);
            for (int i = 14; i >= 0; i--) {
                x.need(i, i + 1);
            }
            x.wants(15, asking(x, 0, 0));
            due("reads of the first", x.reads(0), 1);
        });
        sentence("Terms: all the way: round", x -> {
            settings(x, 3, 2, 0);
            targets(x, 4);
            for (int i = 0; i < 3; i++) {
                x.wants(i, asking(x, i, 0));
                x.need(i, (i + 1) % 3);
                x.need(i, i);
            }
            x.need(3, 2);
            for (int i = 0; i < 4; i++) {
                due("reads of " + i, x.reads(i), 7);
            }
        });
        sentence("Terms: what those read that it needs: not those that need it", x -> {
            x.setting(2, 0);
            targets(x, 2);
            x.wants(0, asking(x, 0, 0));
            x.need(0, 1);
            due("reads", x.reads(1), 0);
        });
        sentence("Terms: a change is no reading, and a need that makes no configuration leads to what it reads", x -> {
            settings(x, 2, 2, 0);
            targets(x, 2);
            x.wants(1, asking(x, 0, 0));
            x.need(0, 1);
            x.change(0, 1, 128);
            due("reads", x.reads(0), 1);
        });
    }

    private static void trim() {
        sentence("23: NONE if there is no such target", x -> {
            start(x);
            due("before the first", x.trim(0, 0), NONE);
            x.target();
            due("-1", x.trim(-1, 0), NONE);
            due("1", x.trim(1, 0), NONE);
            for (int far : FAR) {
                due("" + far, x.trim(far, 0), NONE);
            }
            due("0", x.trim(0, 0), 0);
        });
        sentence("23: NONE if there is no such configuration", x -> {
            x.target();
            due("before the first", x.trim(0, 0), NONE);
            start(x);
            due("-1", x.trim(0, -1), NONE);
            due("1", x.trim(0, 1), NONE);
            for (int far : FAR) {
                due("" + far, x.trim(0, far), NONE);
            }
        });
        sentence("Terms: all settings that it doesn't read have their fallback", x -> {
            for (int i = 0; i < 16; i++) {
                x.setting(8, 7 - i % 8);
            }
            platforms(x, 8);
            int all = x.configuration(7);
            for (int i = 0; i < 16; i++) {
                all = x.set(all, i, i % 8);
            }
            x.target();
            due("all fallbacks", x.trim(0, all), x.configuration(7));
            read(x, 0, askingAll(x, 0, 0, 15));
            int trimmed = x.trim(0, all);
            for (int i = 0; i < 16; i++) {
                due("value of " + i, x.value(trimmed, i), i == 0 ? 0 : i == 15 ? 7 : 7 - i % 8);
            }
            due("again", x.trim(0, trimmed), trimmed);
        });
        sentence("23: NONE if there would be more than 60", x -> {
            settings(x, 4, 8, 0);
            start(x);
            x.target();
            read(x, 0, asking(x, 2, 0));
            int high = x.set(x.set(0, 2, 5), 3, 5);
            due("two more", high, 2);
            fill(x, 0, 1, 60);
            due("there", x.trim(0, high), 1);
            x.target();
            read(x, 1, asking(x, 3, 0));
            due("the 61st", x.trim(1, high), NONE);
            due("it isn't there", x.value(60, 3), NONE);
            due("the fallbacks are", x.trim(x.target(), high), 0);
        });
        sentence("23: NONE if there would be more than 60: the 60th", x -> {
            settings(x, 4, 8, 0);
            start(x);
            x.target();
            read(x, 0, asking(x, 3, 0));
            int high = x.set(x.set(0, 2, 5), 3, 5);
            fill(x, 0, 1, 59);
            due("the 60th", x.trim(0, high), 59);
            due("its value", x.value(59, 3), 5);
            due("the other's", x.value(59, 2), 0);
        });
    }

    private static void expand() {
        sentence("24: NONE if there is no such target", x -> {
            start(x);
            due("before the first", x.expand(0, 0), NONE);
            x.target();
            due("-1", x.expand(-1, 0), NONE);
            due("1", x.expand(1, 0), NONE);
            for (int far : FAR) {
                due("" + far, x.expand(far, 0), NONE);
            }
            due("0", x.expand(0, 0), 1);
        });
        sentence("24: NONE if there is no such configuration", x -> {
            x.target();
            due("before the first", x.expand(0, 0), NONE);
            start(x);
            due("-1", x.expand(0, -1), NONE);
            due("1", x.expand(0, 1), NONE);
            for (int far : FAR) {
                due("" + far, x.expand(0, far), NONE);
            }
        });
        sentence("Terms: the target with that configuration, trimmed for it", x -> {
            settings(x, 2, 8, 0);
            start(x);
            x.target();
            read(x, 0, asking(x, 1, 0));
            int both = x.set(x.set(0, 0, 5), 1, 6);
            due("expand", expanded(x, 0, both), "1 0:06");
            due("it has come up", x.pair(0, 1), both + 1);
        });
        sentence("Terms: if it isn't there: round", x -> {
            start(x);
            targets(x, 16);
            for (int i = 0; i < 16; i++) {
                x.need(i, (i + 1) % 16);
                x.need(i, i);
            }
            due("expand", x.expand(5, 0), 16);
            for (int i = 0; i < 16; i++) {
                due("pair " + i, x.pair(i, 0), (5 + i) % 16);
            }
        });
        sentence("Terms: pair by pair as they came up, for each need in order", x -> {
            settings(x, 2, 2, 0);
            start(x);
            targets(x, 4);
            for (int i = 0; i < 4; i++) {
                read(x, i, i == 0 ? askingAll(x, 0, 0, 1) : 0);
            }
            x.need(0, 3);
            x.need(3, 2);
            x.need(0, 1);
            x.need(1, 2);
            x.change(3, 0, 2);
            x.need(2, 3);
            due("expand", expanded(x, 0, 0), "6 0:00 3:00 1:00 2:00 2:10 3:10");
        });
    }

    /** SETTINGS 0 of 8 and 1 of 3 VALUES, an ALIAS of each, one of none, TARGETS 0 and 1 that READ both, and a NEED. */
    private static void twoReaders(SelectConfig x) {
        x.setting(8, 0);
        x.setting(3, 0);
        aliases(x, 0, 1, 15);
        start(x);
        targets(x, 2);
        int both = askingAll(x, 0, 0, 1);
        read(x, 0, both);
        read(x, 1, both);
        x.need(0, 1);
    }

    private static void changesOnTheWay() {
        sentence("Terms: each of some values in turn, values rising", x -> {
            twoReaders(x);
            x.change(0, 0, 128 | 16 | 1);
            due("expand", expanded(x, 0, x.set(0, 0, 5)), "4 0:50 1:00 1:40 1:70");
        });
        sentence("Terms: the second change's faster", x -> {
            twoReaders(x);
            x.change(0, 0, 128 | 1);
            x.change(0, 1, 7);
            due("expand", expanded(x, 0, 0), "7 0:00 1:00 1:01 1:02 1:70 1:71 1:72");
        });
        sentence("Terms: the second change's faster: told the other way", x -> {
            twoReaders(x);
            x.change(0, 3, 7);
            x.change(0, 2, 128 | 1);
            due("expand", expanded(x, 0, 0), "7 0:00 1:00 1:70 1:01 1:71 1:02 1:72");
        });
        sentence("Terms: those that its base has", x -> {
            twoReaders(x);
            x.change(0, 1, 0b11111100);
            due("expand", expanded(x, 0, 0), "2 0:00 1:02");
        });
        sentence("Terms: those that its base has: by an alias that told more than it has", x -> {
            twoReaders(x);
            x.change(0, 3, 255);
            due("expand", expanded(x, 0, 0), "4 0:00 1:00 1:01 1:02");
        });
        sentence("Terms: if that has none of them, the need makes no configuration", x -> {
            twoReaders(x);
            x.change(0, 1, 0b11111000);
            due("expand", expanded(x, 0, 0), "1 0:00");
        });
        sentence("Terms: if that has none of them: the first of two", x -> {
            twoReaders(x);
            x.change(0, 1, 8);
            x.change(0, 0, 2);
            due("expand", expanded(x, 0, 0), "1 0:00");
        });
        sentence("Terms: if that has none of them: the second of two", x -> {
            twoReaders(x);
            x.change(0, 0, 2);
            x.change(0, 1, 8);
            due("expand", expanded(x, 0, 0), "1 0:00");
            x.need(0, 1);
            due("the next need all the same", expanded(x, 0, 0), "2 0:00 1:00");
        });
        sentence("Terms: if both have one base the second one's count", x -> {
            twoReaders(x);
            x.change(0, 0, 2 | 4);
            x.change(0, 0, 8 | 16);
            due("expand", expanded(x, 0, 0), "3 0:00 1:30 1:40");
        });
        sentence("Terms: if both have one base the second one's count: as an alias", x -> {
            twoReaders(x);
            x.change(0, 2, 32 | 64);
            x.change(0, 0, 1);
            due("expand", expanded(x, 0, x.set(0, 0, 3)), "2 0:30 1:00");
        });
        sentence("Terms: if both have one base the second one's count: none that the base has", x -> {
            twoReaders(x);
            x.change(0, 1, 2);
            x.change(0, 3, 128);
            due("expand", expanded(x, 0, 0), "1 0:00");
        });
        sentence("Terms: changes of a base that isn't there do nothing", x -> {
            twoReaders(x);
            x.change(0, 4, 128);
            due("alone", expanded(x, 0, x.set(0, 0, 3)), "2 0:30 1:30");
            x.change(0, 1, 6);
            due("as the first", expanded(x, 0, 0), "3 0:00 1:01 1:02");
            x.need(0, 1);
            x.change(1, 0, 6);
            x.change(1, 4, 255);
            due("as the second", expanded(x, 0, 0), "5 0:00 1:01 1:02 1:10 1:20");
        });
        sentence("Terms: changes of a base that isn't there do nothing: both", x -> {
            twoReaders(x);
            aliases(x, 5);
            x.change(0, 4, 255);
            x.change(0, 5, 128);
            due("expand", expanded(x, 0, 0), "2 0:00 1:00");
        });
        sentence("Terms: changes of a base that isn't there: until it comes", x -> {
            twoReaders(x);
            x.change(0, 4, 2);
            for (int i = 5; i < 15; i++) {
                x.alias(0);
            }
            due("not yet", x.expand(0, 0), 2);
            x.setting(2, 0);
            due("it isn't read", x.expand(0, 0), 2);
            read(x, 1, asking(x, 15, 0));
            due("now", x.expand(0, 0), 2);
            due("its value", x.value(x.pair(1, 1), 15), 1);
            due("the first one's", x.value(x.pair(0, 1), 15), 0);
        });
        sentence("Terms: the other target with it, trimmed for that: changes of what it doesn't read give one", x -> {
            twoReaders(x);
            x.need(0, x.target());
            x.change(1, 0, 255);
            x.change(1, 1, 255);
            due("expand", expanded(x, 0, x.set(0, 0, 3)), "3 0:30 1:30 2:00");
        });
        sentence("Terms: configurations as they come up: only trimmed ones", x -> {
            twoReaders(x);
            x.need(0, x.target());
            x.change(1, 0, 255);
            x.change(1, 1, 255);
            x.expand(0, 0);
            due("the next number", x.set(0, 0, 1), 1);
        });
    }

    /** SETTINGS 0 and 1 of 8 VALUES, so many TARGETS that READ both, and a CONFIGURATION. */
    private static void readers(SelectConfig x, int count) {
        settings(x, 2, 8, 0);
        start(x);
        int both = askingAll(x, 0, 0, 1);
        for (int i = 0; i < count; i++) {
            x.target();
            read(x, i, both);
        }
    }

    private static void tooMany() {
        sentence("24: - 2 if there would be more than 60 pairs: 60 are not", x -> {
            readers(x, 15);
            x.need(0, 0);
            x.change(0, 0, 3);
            x.change(0, 1, 3);
            for (int i = 1; i < 15; i++) {
                x.need(0, i);
            }
            due("60", x.expand(0, 0), 60);
            due("the 60th", x.pair(59, 0), 14);
            due("no 61st", x.pair(60, 0), NONE);
        });
        sentence("24: - 2 if there would be more than 60 pairs: 61 are", x -> {
            readers(x, 15);
            x.need(0, 0);
            x.change(0, 0, 3);
            x.change(0, 1, 3);
            for (int i = 1; i < 15; i++) {
                x.need(0, i);
            }
            x.target();
            x.need(14, 15);
            due("61", x.expand(0, 0), -2);
            due("no pairs then", x.pair(0, 0), NONE);
            due("59", x.pair(59, 0), NONE);
        });
        sentence("24: - 2 if there would be more than 60 pairs: 60 and one that is there", x -> {
            readers(x, 15);
            x.need(0, 0);
            x.change(0, 0, 3);
            x.change(0, 1, 3);
            for (int i = 1; i < 15; i++) {
                x.need(0, i);
                x.need(i, 0);
            }
            due("60", x.expand(0, 0), 60);
        });
        sentence("24: - 2 if there would be more than 60 configurations: 60 are not", x -> {
            readers(x, 2);
            x.setting(8, 0);
            fill(x, 1, 2, 56);
            x.need(0, 1);
            x.change(0, 0, 0b11110);
            due("60", x.expand(0, 0), 5);
            due("the 60th", x.pair(4, 1), 59);
            due("again, all are there", x.expand(0, 0), 5);
        });
        sentence("24: - 2 if there would be more than 60 configurations: 61 are, those that came up stay", x -> {
            readers(x, 2);
            x.setting(8, 0);
            fill(x, 1, 2, 56);
            x.need(0, 1);
            x.change(0, 0, 0b111110);
            due("61", x.expand(0, 0), -2);
            due("no pairs then", x.pair(0, 0), NONE);
            for (int i = 56; i < 60; i++) {
                due("configuration " + i, x.value(i, 0), i - 55);
            }
            due("no 61st", x.value(60, 0), NONE);
            due("no more room", x.set(0, 0, 5), NONE);
            due("one that is there", x.set(0, 0, 4), 59);
        });
        sentence("24: - 2 if there would be more than 60 configurations: the first pair's", x -> {
            readers(x, 1);
            settings(x, 2, 8, 0);
            int high = x.set(x.set(0, 2, 1), 0, 1);
            fill(x, 2, 3, 60);
            due("61", x.expand(0, high), -2);
            due("no pairs then", x.pair(0, 0), NONE);
            due("one that is there", x.expand(0, 0), 1);
        });
        sentence("24: those that came up stay: of too many pairs", x -> {
            readers(x, 16);
            x.need(0, 0);
            x.change(0, 0, 3);
            x.change(0, 1, 3);
            for (int i = 1; i < 16; i++) {
                x.need(0, i);
            }
            due("64", x.expand(0, 0), -2);
            due("the second", x.value(1, 1), 1);
            due("the fourth", x.value(3, 0), 1);
            due("no fifth", x.value(4, 0), NONE);
        });
        sentence("24: no pairs then: those of the expand before are gone", x -> {
            readers(x, 16);
            due("one", x.expand(1, 0), 1);
            x.need(0, 0);
            x.change(0, 0, 255);
            x.change(0, 1, 255);
            due("64", x.expand(0, 0), -2);
            due("pair", x.pair(0, 0), NONE);
            due("NONE", x.expand(16, 0), NONE);
            due("still none", x.pair(0, 0), NONE);
            due("one again", x.expand(1, 0), 1);
            due("its pair", x.pair(0, 0), 1);
        });
    }

    private static void pair() {
        sentence("25: of the latest expand that wasn't NONE", x -> {
            readers(x, 3);
            x.need(0, 1);
            x.expand(0, 0);
            x.expand(3, 0);
            x.expand(0, 1);
            x.expand(-1, -1);
            due("the latest", pairs(x), "0:00 1:00");
            x.expand(2, 0);
            due("fewer", pairs(x), "2:00");
        });
        sentence("25: of the latest expand: what an earlier one's pairs led to leaves none out", x -> {
            readers(x, 6);
            x.wants(5, asking(x, 0, 1));
            x.need(0, 1);
            x.need(1, 2);
            x.need(3, 4);
            x.need(3, 5);
            due("the second leads to the third", expanded(x, 0, 0), "3 0:00 1:00 2:00");
            due("the second leads to none", expanded(x, 3, 0), "3 3:00? 4:00 5:00!");
        });
        sentence("25: of the latest expand: what one that was -2 led to leaves none out", x -> {
            readers(x, 6);
            x.wants(5, asking(x, 0, 1));
            x.need(0, 1);
            x.need(1, 2);
            x.need(2, 2);
            x.change(2, 0, 255);
            x.change(2, 1, 255);
            x.need(3, 4);
            x.need(3, 5);
            due("too many", x.expand(0, 0), -2);
            due("the second leads to none", expanded(x, 3, 0), "3 3:00? 4:00 5:00!");
        });
        sentence("25: NONE if there is none such", x -> {
            readers(x, 2);
            due("before any expand", x.pair(0, 0), NONE);
            x.need(0, 1);
            x.expand(0, 0);
            due("-1", x.pair(-1, 0), NONE);
            due("the last", x.pair(1, 0), 1);
            due("2", x.pair(2, 0), NONE);
            due("60", x.pair(60, 0), NONE);
            for (int far : FAR) {
                due("" + far, x.pair(far, 0), NONE);
            }
        });
        sentence("25: NONE for another what", x -> {
            readers(x, 1);
            x.expand(0, 0);
            due("-1", x.pair(0, -1), NONE);
            due("3", x.pair(0, 3), NONE);
            for (int far : FAR) {
                due("" + far, x.pair(0, far), NONE);
            }
            due("2", x.pair(0, 2), 0);
        });
    }

    private static void leftOut() {
        sentence("25: 1 (by its want)", x -> {
            readers(x, 1);
            x.wants(0, asking(x, 0, 1));
            due("it doesn't hold", expanded(x, 0, 0), "1 0:00!");
            due("it holds", expanded(x, 0, x.set(0, 0, 1)), "1 0:10");
        });
        sentence("25: 1 (by its want): an axis", x -> {
            readers(x, 1);
            x.wants(0, askingAxis(x, 7, 7));
            due("the platform has none", expanded(x, 0, 0), "1 0:00!");
            x.platform();
            x.has(1, 7, 7);
            due("the platform has it", expanded(x, 0, x.configuration(1)), "1 0:00");
        });
        sentence("25: 1 (by its want): an empty condition holds, one without a base doesn't", x -> {
            readers(x, 1);
            x.wants(0, x.condition());
            due("empty", expanded(x, 0, 0), "1 0:00");
            x.alias(9);
            x.wants(0, asking(x, 2, 0));
            due("without a base", expanded(x, 0, 0), "1 0:00!");
        });
        sentence("25: 2 (by a need alone)", x -> {
            readers(x, 3);
            x.wants(1, asking(x, 0, 1));
            x.need(0, 1);
            x.need(0, 2);
            due("by a need", expanded(x, 0, 0), "3 0:00? 1:00! 2:00");
            x.wants(0, asking(x, 0, 1));
            due("by both", expanded(x, 0, 0), "3 0:00! 1:00! 2:00");
        });
        sentence("Terms: one of whose needs a pair is left out: one of eight", x -> {
            readers(x, 2);
            x.need(0, 1);
            x.change(0, 0, 255);
            x.wants(1, asking(x, 0, 7));
            due("all but one", expanded(x, 0, 0), "9 0:00? 1:00! 1:10! 1:20! 1:30! 1:40! 1:50! 1:60! 1:70");
            x.change(0, 0, 128);
            due("none", expanded(x, 0, 0), "2 0:00 1:70");
        });
        sentence("Terms: one of whose needs a pair is left out: all the way, the longest", x -> {
            readers(x, 16);
            for (int i = 0; i < 15; i++) {
                x.need(i, i + 1);
            }
            x.wants(15, asking(x, 0, 1));
            x.expand(0, 0);
            for (int i = 0; i < 16; i++) {
                due("pair " + i, x.pair(i, 2), i == 15 ? 1 : 2);
            }
        });
        sentence("Terms: one of whose needs a pair is left out: round", x -> {
            readers(x, 4);
            x.need(0, 1);
            x.need(1, 2);
            x.need(2, 0);
            x.need(0, 0);
            due("none", expanded(x, 0, 0), "3 0:00 1:00 2:00");
            x.wants(1, asking(x, 0, 1));
            due("all", expanded(x, 0, 0), "3 0:00? 1:00! 2:00?");
        });
        sentence("Terms: one of whose needs a pair is left out: the 60th", x -> {
            readers(x, 7);
            targets(x, 4);
            x.need(0, 0);
            x.change(0, 0, 255);
            for (int i = 1; i < 7; i++) {
                x.need(0, i);
            }
            for (int i = 1; i < 5; i++) {
                x.need(i, i + 1);
                x.need(i + 5, i + 6);
            }
            x.wants(10, askingAxis(x, 7, 7));
            due("expand", x.expand(0, 0), 60);
            due("the 60th", x.pair(59, 0), 10);
            for (int i = 0; i < 60; i++) {
                int target = x.pair(i, 0);
                int want = target == 10 ? 1 : target == 0 || target >= 6 ? 2 : 0;
                due("pair " + i + " of " + target, x.pair(i, 2), want);
            }
        });
        sentence("Terms: a need that makes no configuration leaves none out", x -> {
            readers(x, 2);
            x.setting(2, 0);
            x.wants(1, asking(x, 0, 1));
            x.need(0, 1);
            x.change(0, 2, 4);
            due("expand", expanded(x, 0, 0), "1 0:00");
        });
        sentence("Terms: a pair that is left out leads to others all the same", x -> {
            readers(x, 3);
            x.wants(0, asking(x, 0, 1));
            x.need(0, 1);
            x.need(1, 2);
            x.wants(1, 1);
            due("expand", expanded(x, 0, 0), "3 0:00! 1:00! 2:00");
        });
        sentence("Terms: a pair left out in one configuration is not in another", x -> {
            readers(x, 2);
            x.wants(1, asking(x, 0, 1));
            x.need(0, 0);
            x.change(0, 0, 2);
            x.need(0, 1);
            due("expand", expanded(x, 0, 0), "4 0:00? 0:10 1:00! 1:10");
        });
    }
}
