import java.util.ArrayList;
import java.util.Collections;
import java.util.List;
import java.util.Random;

/** Runs of calls made by lot, each answer compared with that of SlowFerry. */
public final class ModelTest {
    private static final int RUNS = 1500;
    private static final int CALLS = 300;
    private static final int OPS = 47;
    private static final String[] VARS = {"at", "odds", "heavy", "nerve", "left", "year", "which", "buoys", "goes"};
    private static final String[] LAWS = {"needs", "fares", "dares", "shifts"};
    private static final String[] TOKENS = {"wave", "party", "needs", "seed", "if", "then", "else", "at", "odds",
        "abc", "abcdefgh", "abcdefghi", "1", "0", "9", "10", "9999", "12345", ";", "=", "+", "-", "*", "/", "<",
        "(", ")", ".", "A", "\u0000", "\u00ff", "\t", "\n", "\r", ">"};

    private static int wrong = 0;

    private final Random random;
    private final int run;
    private final GuessFerry x = new GuessFerry();
    private final SlowFerry model = new SlowFerry();
    private final List<String> calls = new ArrayList<>();
    private boolean failed = false;

    private ModelTest(int run) {
        this.run = run;
        random = new Random(run * 7919L + 17);
    }

    public static void main(String[] args) {
        for (int run = 0; run < RUNS && wrong < 5; run++) {
            new ModelTest(run).go();
        }
        System.out.println(wrong == 0 ? "ModelTest: all answers are as the model's" : wrong + " runs went wrong");
        if (wrong != 0) {
            System.exit(1);
        }
    }

    private void go() {
        if (random.nextInt(10) > 0) {
            readText(random.nextInt(8) == 0);
        }
        for (int i = 0; i < CALLS && !failed; i++) {
            if (random.nextInt(60) == 0) {
                readText(random.nextInt(3) > 0);
            }
            call(random.nextInt(OPS));
        }
        if (!failed) {
            for (int what = -1; what <= 19 && !failed; what++) {
                same("count(" + what + ")", x.count(what), model.count(what));
            }
        }
    }

    private void same(String call, int got, int want) {
        calls.add(call + " = " + got);
        if (got != want && !failed) {
            failed = true;
            wrong++;
            System.out.println("run " + run + ", due is " + want + " in the last of:");
            for (String one : calls) {
                System.out.println("  " + one);
            }
        }
    }

    private static int flag(boolean is) {
        return is ? 1 : 0;
    }

    // ---- texts ----

    private void readText(boolean broken) {
        String text = text();
        if (broken) {
            text = broken(text);
        }
        feedText(text);
        same("read()", x.read(), model.read());
        same("place()", x.place(), model.place());
        same("count(8)", x.count(8), model.count(8));
    }

    private void feedText(String text) {
        StringBuilder padded = new StringBuilder(text.length() > 2000 ? text.substring(0, 2000) : text);
        int pad = 0;
        while (padded.length() % 20 != 0) {
            padded.append(' ');
            pad++;
        }
        calls.add("text: " + text);
        for (int i = 0; i < padded.length(); i += 20) {
            int[] w = new int[5];
            for (int j = 0; j < 20; j++) {
                w[j / 4] = w[j / 4] << 8 | padded.charAt(i + j);
            }
            same("feed", x.feed(w[0], w[1], w[2], w[3], w[4]), model.feed(w[0], w[1], w[2], w[3], w[4]));
        }
        same("back(" + pad + ")", x.back(pad), model.back(pad));
    }

    private String text() {
        List<String> tells = new ArrayList<>();
        int size = random.nextInt(20);
        int waves = size == 0 ? 0 : size < 3 ? 1 : size < 9 ? 2 : size < 18 ? 3 : size < 19 ? 4 : 5;
        for (int i = 0; i < waves; i++) {
            tells.add(wave());
        }
        int parties = random.nextInt(7);
        List<String> names = new ArrayList<>(List.of("a", "bob", "abcdefgh", "ship", "waves", "zz"));
        Collections.shuffle(names, random);
        for (int i = 0; i < parties; i++) {
            tells.add("party " + names.get(i) + " " + random.nextInt(random.nextBoolean() ? 10 : 4) + " "
                + random.nextInt(10) + ";");
        }
        int laws = random.nextInt(6);
        for (int i = 0; i < laws; i++) {
            tells.add(LAWS[random.nextInt(4)] + law());
        }
        if (random.nextInt(4) > 0) {
            tells.add("seed " + random.nextInt(10000) + ";");
        }
        Collections.shuffle(tells, random);
        return String.join(random.nextBoolean() ? " " : "\r\n\t", tells);
    }

    private String wave() {
        StringBuilder wave = new StringBuilder("wave");
        int gaps = random.nextInt(4);
        int sure = random.nextInt(6);
        for (int thing = 0; thing < 6; thing++) {
            boolean none = random.nextInt(4) < gaps && thing != sure;
            wave.append(' ').append(none ? 0 : 1 + random.nextInt(random.nextBoolean() ? 9 : 3));
        }
        return wave.append(";").toString();
    }

    private String law() {
        StringBuilder law = new StringBuilder(" = ");
        int ifs = random.nextInt(3) == 0 ? 1 + random.nextInt(4) : 0;
        for (int i = 0; i < ifs; i++) {
            law.append("if ").append(sum(2)).append(" < ").append(sum(2)).append(" then ").append(sum(2));
            law.append(" else ");
        }
        return law.append(sum(3)).append(";").toString();
    }

    private String sum(int depth) {
        StringBuilder sum = new StringBuilder(product(depth));
        for (int i = random.nextInt(3); i > 0 && depth > 0; i--) {
            sum.append(random.nextBoolean() ? " + " : " - ").append(product(depth - 1));
        }
        return sum.toString();
    }

    private String product(int depth) {
        StringBuilder product = new StringBuilder(unit(depth));
        for (int i = random.nextInt(6) - 3; i > 0 && depth > 0; i--) {
            product.append(random.nextBoolean() ? "*" : "/").append(unit(depth - 1));
        }
        return product.toString();
    }

    private String unit(int depth) {
        int sort = random.nextInt(8);
        if (depth > 0 && sort == 0) {
            return "(" + sum(depth - 1) + ")";
        }
        if (sort < 4) {
            return VARS[random.nextInt(VARS.length)];
        }
        return "" + random.nextInt(sort == 4 ? 10000 : sort == 5 ? 60 : 6);
    }

    private String broken(String text) {
        int sort = random.nextInt(10);
        String all = text;
        if (sort == 0) {
            all = text + " wave 1 0 0 0 0 0;".repeat(random.nextInt(7));
        } else if (sort == 1) {
            StringBuilder more = new StringBuilder(text);
            for (int i = random.nextInt(random.nextBoolean() ? 8 : 4); i > 0; i--) {
                more.append("party ").append((char) ('a' + random.nextInt(6)));
                more.append(random.nextInt(8) == 0 ? " 1 12;" : " 1 2;");
            }
            all = more.toString();
        } else if (sort == 2) {
            int n = random.nextInt(9);
            all = text + "needs=1+" + "(".repeat(n) + "2" + ")".repeat(n) + ";";
        } else if (sort == 3) {
            all = text + "fares=" + "if 1<2 then 3 else ".repeat(random.nextInt(7)) + "at;";
        } else if (sort == 4) {
            all = text + "dares=0" + "+1".repeat(random.nextInt(250)) + (random.nextBoolean() ? ";" : "");
        } else if (sort == 5) {
            all = text + "wave 0 0 0 0 0 " + random.nextInt(2) * random.nextInt(12) + ";";
        }
        for (int i = random.nextInt(3); i > 0; i--) {
            int at = random.nextInt(all.length() + 1);
            int to = Math.min(all.length(), at + random.nextInt(4) * random.nextInt(2));
            all = all.substring(0, at) + (random.nextBoolean() ? " " : "") + TOKENS[random.nextInt(TOKENS.length)]
                + (random.nextBoolean() ? " " : "") + all.substring(to);
        }
        return all;
    }

    // ---- calls ----

    private int near(int most) {
        int sort = random.nextInt(40);
        return sort == 0 ? -1 : sort == 1 ? most + 1 : sort == 2 ? (random.nextBoolean() ? Integer.MIN_VALUE
            : Integer.MAX_VALUE) : random.nextInt(most + 1);
    }

    private int aWave() {
        return near(Math.max(0, model.count(0) - 1));
    }

    private int aParty() {
        return near(Math.max(0, model.count(1) - 1));
    }

    private int aGuess() {
        int sort = random.nextInt(8);
        int guess = sort < 2 ? model.count(15) : sort == 2 && model.count(1) > 0 ? model.safest(0) : -1;
        return guess >= 0 ? guess : near(model.count(14) - 1);
    }

    private boolean isSmall(int cases) {
        return model.count(14) <= 216 && model.cases() <= cases;
    }

    private void call(int op) {
        if (op < 16) {
            act(op);
        } else if (op < 32) {
            look(op);
        } else {
            lookOn(op);
        }
    }

    private void act(int op) {
        int a;
        int b;
        boolean so = random.nextInt(3) > 0;
        switch (op) {
            case 0: case 1: case 2:
                a = aParty(); b = aGuess();
                same("go(" + a + ", " + b + ")", x.go(a, b), model.go(a, b));
                break;
            case 3: case 4:
                a = aWave(); b = near(5);
                same("buoy(" + a + ", " + b + ", " + so + ")", flag(x.buoy(a, b, so)), flag(model.buoy(a, b, so)));
                break;
            case 5: case 6:
                a = aParty();
                same("fetch(" + a + ")", flag(x.fetch(a)), flag(model.fetch(a)));
                break;
            case 7:
                a = random.nextInt(3) > 0 ? random.nextInt(3) : near(40);
                same("years(" + a + ")", x.years(a), model.years(a));
                break;
            case 8:
                for (int i = random.nextInt(12) == 0 ? 45 : 1; i > 0; i--) {
                    same("undo()", flag(x.undo()), flag(model.undo()));
                }
                break;
            case 9: case 10: case 11:
                a = aWave(); b = near(63);
                same("tell(" + a + ", " + b + ", " + so + ")", x.tell(a, b, so), model.tell(a, b, so));
                break;
            case 12:
                if (random.nextInt(12) == 0) {
                    same("forget()", x.forget(), model.forget());
                }
                break;
            case 13:
                a = near(2);
                same("hold(" + a + ")", flag(x.hold(a)), flag(model.hold(a)));
                break;
            case 14:
                a = near(2);
                if (random.nextInt(3) == 0) {
                    same("restore(" + a + ")", flag(x.restore(a)), flag(model.restore(a)));
                }
                break;
            default:
                a = near(18);
                same("count(" + a + ")", x.count(a), model.count(a));
                break;
        }
    }

    private void look(int op) {
        int a = aWave();
        int b = near(5);
        int p = aParty();
        int g = aGuess();
        switch (op) {
            case 16: same("wave(" + a + ", " + b + ")", x.wave(a, b), model.wave(a, b)); break;
            case 17: same("odds(" + a + ", " + b + ")", x.odds(a, b), model.odds(a, b)); break;
            case 18: same("party(" + p + ", " + b + ")", x.party(p, b), model.party(p, b)); break;
            case 19: same("needs(" + p + ", " + a + ", " + b + ")", x.needs(p, a, b), model.needs(p, a, b)); break;
            case 20: same("cases()", x.cases(), model.cases()); break;
            case 21: same("chance(" + g + ")", x.chance(g), model.chance(g)); break;
            case 22: same("all()", x.all(), model.all()); break;
            case 23: same("likeliest()", x.likeliest(), model.likeliest()); break;
            case 24: same("bears(" + p + ", " + g + ")", x.bears(p, g), model.bears(p, g)); break;
            case 25: same("safest(" + p + ")", x.safest(p), model.safest(p)); break;
            case 26:
                if (isSmall(18)) {
                    same("enough()", x.enough(), model.enough());
                }
                break;
            case 27: same("left(" + g + ")", x.left(g), model.left(g)); break;
            case 28:
                b = near(1);
                if (isSmall(50)) {
                    same("wisest(" + b + ")", x.wisest(b), model.wisest(b));
                }
                break;
            case 29: same("rank(" + g + ")", x.rank(g), model.rank(g)); break;
            case 30: b = near(19); same("ranked(" + b + ")", x.ranked(b), model.ranked(b)); break;
            default: same("share(" + a + ", " + b + ")", x.share(a, b), model.share(a, b)); break;
        }
    }

    private void lookOn(int op) {
        int a = aWave();
        int g = aGuess();
        int h = aGuess();
        int k = near(model.count(10));
        int l = near(3);
        switch (op) {
            case 32:
                int p = aParty();
                int n = near(8);
                if (isSmall(24)) {
                    same("sure(" + p + ", " + n + ")", x.sure(p, n), model.sure(p, n));
                }
                break;
            case 33: same("alike(" + g + ", " + h + ")", x.alike(g, h), model.alike(g, h)); break;
            case 34: same("sunk(" + g + ")", x.sunk(g), model.sunk(g)); break;
            case 35: same("stuck()", x.stuck(), model.stuck()); break;
            case 36: same("spread(" + a + ")", x.spread(a), model.spread(a)); break;
            case 37: l = near(1); same("dearest(" + l + ")", x.dearest(l), model.dearest(l)); break;
            case 38: same("chosen()", x.chosen(), model.chosen()); break;
            case 39: l = near(2); same("allGo(" + l + ")", x.allGo(l), model.allGo(l)); break;
            case 40:
                same("darers()", x.darers(), model.darers());
                same("open()", x.open(), model.open());
                break;
            case 41:
                k = near(40);
                same("then(" + a + ", " + k + ", " + l + ")", x.then(a, k, l), model.then(a, k, l));
                break;
            case 42: same("next(" + a + ")", x.next(a), model.next(a)); break;
            case 43: k = near(20); same("year(" + g + ", " + k + ")", x.year(g, k), model.year(g, k)); break;
            case 44: k = near(20); same("drawn(" + a + ", " + k + ")", x.drawn(a, k), model.drawn(a, k)); break;
            case 45:
                int w = near(1);
                same("fit(" + k + ", " + l + ", " + w + ")", x.fit(k, l, w), model.fit(k, l, w));
                break;
            default:
                same("lie(" + k + ", " + l + ")", x.lie(k, l), model.lie(k, l));
                same("ask(" + k + ", " + l + ")", x.ask(k, l), model.ask(k, l));
                break;
        }
    }
}
