/** The example of README.md, with the answers that it tells. */
public final class ReadmeTest {
    private static int wrong = 0;

    private static void due(String call, int got, int want) {
        if (got != want) {
            wrong++;
            System.out.println(call + " answered " + got + ", README.md tells " + want);
        }
    }

    private static void done(String call, boolean got) {
        due(call, got ? 1 : 0, 1);
    }

    public static void main(String[] args) {
        SelectConfig x = new SelectConfig();
        int mode = x.setting(3, 0);
        int log = x.setting(2, 1);
        int arm = x.platform();
        done("has(arm, 0, 5)", x.has(arm, 0, 5));

        int fast = x.condition();
        done("asks(fast, false, mode, 1)", x.asks(fast, false, mode, 1));
        int fastOnArm = x.condition();
        done("asks(fastOnArm, false, mode, 1)", x.asks(fastOnArm, false, mode, 1));
        done("asks(fastOnArm, true, 0, 5)", x.asks(fastOnArm, true, 0, 5));

        int lib = x.target();
        int flags = x.select(lib);
        done("branch(flags, fast, false, 42)", x.branch(flags, fast, false, 42));
        done("branch(flags, fastOnArm, false, 43)", x.branch(flags, fastOnArm, false, 43));
        done("otherwise(flags, 7)", x.otherwise(flags, 7));

        int plain = x.configuration(arm);
        int quick = x.set(plain, mode, 1);
        due("choose(flags, plain)", x.choose(flags, plain), 1);
        due("chosen(0)", x.chosen(0), 7);
        due("choose(flags, quick)", x.choose(flags, quick), 1);
        due("chosen(0)", x.chosen(0), 43);

        int app = x.target();
        int need = x.need(app, lib);
        done("change(need, mode, 0b011)", x.change(need, mode, 0b011));
        done("wants(lib, fast)", x.wants(lib, fast));
        due("reads(app)", x.reads(app), 1);
        due("trim(app, ..)", x.trim(app, x.set(plain, log, 0)), plain);
        due("expand(app, plain)", x.expand(app, plain), 3);
        due("pair(0, 0)", x.pair(0, 0), app);
        due("pair(0, 1)", x.pair(0, 1), plain);
        due("pair(1, 0)", x.pair(1, 0), lib);
        due("pair(1, 1)", x.pair(1, 1), plain);
        due("pair(2, 0)", x.pair(2, 0), lib);
        due("pair(2, 1)", x.pair(2, 1), quick);
        due("pair(2, 2)", x.pair(2, 2), 0);
        due("pair(1, 2)", x.pair(1, 2), 1);
        due("pair(0, 2)", x.pair(0, 2), 2);

        System.out.println(wrong == 0 ? "README.md's example answers as it tells" : wrong + " answers not as told");
        if (wrong != 0) {
            System.exit(1);
        }
    }
}
