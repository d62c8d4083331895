import java.util.ArrayDeque;
import java.util.Deque;
import java.util.Random;

/** All promises: long runs of calls by fixed seeds, each answer compared with that of the Model. */
public final class RandomRunsTest {
    private static final int RUNS = 3000;
    private static final int CALLS = 500;

    private interface Calls {
        long on(ChairStamps x);
    }

    private interface Model1 {
        long on(Model m);
    }

    private final Check check = new Check();
    private final Random random;
    private final ChairStamps x = new ChairStamps();
    private final Model model = new Model();
    private final Deque<String> told = new ArrayDeque<>();
    private final boolean wild;
    private final StringBuilder toAppend = new StringBuilder();

    private RandomRunsTest(int seed) {
        random = new Random(seed);
        wild = seed % 5 == 0;
    }

    public static void main(String[] args) {
        int wrong = 0;
        for (int seed = 0; seed < RUNS && wrong == 0; seed++) {
            RandomRunsTest run = new RandomRunsTest(seed);
            for (int i = 0; i < CALLS && run.check.wrong() == 0; i++) {
                run.call(run.random.nextInt(100));
            }
            wrong += run.check.wrong();
            if (wrong > 0) {
                System.out.println("seed " + seed + ", the last calls:");
                run.told.forEach(System.out::println);
            }
        }
        System.out.println(RUNS + " runs of " + CALLS + " calls, " + wrong + " not as due");
        if (wrong > 0) {
            System.exit(1);
        }
    }

    private static String answer(java.util.function.LongSupplier call) {
        try {
            return Long.toString(call.getAsLong());
        } catch (RuntimeException e) {
            return e.getClass().getSimpleName();
        }
    }

    private void both(String call, Calls mine, Model1 due) {
        String got = answer(() -> mine.on(x));
        String want = answer(() -> due.on(model));
        told.addLast(call + " -> " + got);
        if (told.size() > 40) {
            told.removeFirst();
        }
        if (!got.equals(want)) {
            check.fault(call + " answered " + got + ", due is " + want);
        }
    }

    /** A number from least to most, now and then beside it. */
    private int in(int least, int most) {
        int kind = random.nextInt(wild ? 30 : 120);
        if (kind == 0) {
            return least - 1;
        }
        if (kind == 1) {
            return most + 1;
        }
        if (kind == 2) {
            return new int[] {Integer.MIN_VALUE, Integer.MAX_VALUE, -1000, 100000}[random.nextInt(4)];
        }
        if (kind < 6) {
            return random.nextBoolean() ? least : most;
        }
        return least + random.nextInt(most - least + 1);
    }

    /** A chair, mostly one that is there. */
    private int seat() {
        return in(0, random.nextInt(8) == 0 ? 9 : Math.max(0, model.about(0) - 1));
    }

    private int ground() {
        return in(0, random.nextInt(8) == 0 ? 3 : model.about(1) - 1);
    }

    private int boundValue(int k) {
        if (random.nextInt(12) == 0) {
            return in(0, 900);
        }
        return k == 0 ? in(100, 460) : k == 1 ? in(440, 900) : k == 2 ? in(0, 30) : in(0, 60);
    }

    private void call(int kind) {
        if (kind < 50) {
            action(kind);
        } else if (kind < 62) {
            textCall(kind);
        } else if (kind < 84) {
            reading(kind);
        } else if (kind < 94) {
            wouldBe(kind);
        } else {
            slotsOrAll(kind);
        }
    }

    private void action(int kind) {
        int c = seat();
        int k = in(0, 3);
        if (kind < 5) {
            int length = random.nextInt(6) == 0 ? in(100, 900) : in(430, 480);
            both("chair(" + k + ", " + length + ")", x -> x.chair(k, length), m -> m.chair(k, length));
        } else if (kind < 8) {
            int most = random.nextBoolean() ? 50 : 5;
            int[] v = {in(0, most), in(0, most), in(0, most), in(0, most)};
            both("floor", x -> x.floor(v[0], v[1], v[2], v[3]), m -> m.floor(v));
        } else if (kind < 11) {
            int f = ground();
            int v = random.nextInt(3) > 0 ? in(0, 4) : in(0, 50);
            both("level(" + f + ", " + k + ", " + v + ")", x -> x.level(f, k, v), m -> m.level(f, k, v));
        } else if (kind < 16) {
            int f = ground();
            both("bring(" + c + ", " + f + ", " + k + ")", x -> x.bring(c, f, k), m -> m.bring(c, f, k));
        } else if (kind < 21) {
            int n = random.nextInt(5) == 0 ? in(1, 800) : in(1, 6);
            both("saw(" + c + ", " + k + ", " + n + ")", x -> x.saw(c, k, n), m -> m.saw(c, k, n));
        } else if (kind < 25) {
            int n = random.nextInt(5) == 0 ? in(1, 99) : in(1, 6);
            both("shim(" + c + ", " + k + ", " + n + ")", x -> x.shim(c, k, n), m -> m.shim(c, k, n));
        } else if (kind < 34) {
            both("test(" + c + ")", x -> x.test(c), m -> m.test(c));
        } else if (kind < 39) {
            int v = in(1, 200);
            both("sit(" + c + ", " + v + ")", x -> x.sit(c, v), m -> m.sit(c, v));
        } else if (kind < 43) {
            int g = in(0, 3);
            int v = boundValue(k);
            both("bound(" + g + ", " + k + ", " + v + ")", x -> x.bound(g, k, v), m -> m.bound(g, k, v));
        } else if (kind < 45) {
            int what = in(0, 1);
            int v = what == 1 ? in(1, 200) : in(0, 50);
            both("set(" + what + ", " + v + ")", x -> x.set(what, v), m -> m.set(what, v));
        } else {
            both("undo()", x -> x.undo(), m -> m.undo());
        }
    }

    private void textCall(int kind) {
        if (kind < 57) {
            for (int i = 0; i < 6; i++) {
                appendOne();
            }
        } else if (kind < 59) {
            both("errorPosition()", x -> x.errorPosition(), m -> m.errorPosition());
        } else if (kind < 60) {
            both("load()", x -> x.load(), m -> m.load());
        } else if (random.nextInt(4) == 0) {
            both("clearText()", x -> x.clearText(), m -> m.clearText());
            toAppend.setLength(0);
            toAppend.append('K');
        }
    }

    private void appendOne() {
        if (toAppend.length() == 0) {
            toAppend.append(command());
        }
        int c = toAppend.charAt(0);
        toAppend.deleteCharAt(0);
        if (random.nextInt(200) == 0) {
            c = in(0, 255);
        }
        int code = c;
        both("append(" + code + ")", x -> x.append(code), m -> m.append(code));
    }

    private String digits(int width, int least, int most) {
        return String.format("%0" + width + "d", least + random.nextInt(most - least + 1));
    }

    private String command() {
        String c = digits(1, 0, random.nextInt(6) == 0 ? 9 : 2);
        String k = digits(1, 0, 3);
        switch (random.nextInt(9)) {
            case 0:
            case 1:
                return "c" + k + digits(3, 400, random.nextInt(5) == 0 ? 900 : 500);
            case 2:
                return "s" + c + k + digits(3, 1, random.nextInt(4) == 0 ? 800 : 5);
            case 3:
                return "h" + c + k + digits(2, 1, random.nextInt(4) == 0 ? 99 : 5);
            case 4:
                return "f" + digits(2, 0, 50) + digits(2, 0, 9) + digits(2, 0, 5) + digits(2, 0, 50);
            case 5:
                return "b" + c + digits(1, 0, 3) + k;
            case 6:
                return "t" + c;
            case 7:
                return "w" + c + digits(3, 1, 200);
            default:
                return "g" + k + digits(1, 0, 3) + digits(3, 0, random.nextBoolean() ? 900 : 100);
        }
    }

    private void reading(int kind) {
        int c = seat();
        int k = in(0, 3);
        int what = in(0, 10);
        if (kind < 66) {
            both("about(" + what + ")", x -> x.about(what), m -> m.about(what));
        } else if (kind < 72) {
            both("chairOf(" + c + ", " + what + ")", x -> x.chairOf(c, what), m -> m.chairOf(c, what));
        } else if (kind < 76) {
            int way = in(0, 1);
            both("wobble(" + c + ", " + way + ")", x -> x.wobble(c, way), m -> m.wobble(c, way));
        } else if (kind < 79) {
            int i = in(0, 2);
            both("legOf(" + c + ", " + k + ", " + i + ")", x -> x.legOf(c, k, i), m -> m.legOf(c, k, i));
        } else if (kind < 81) {
            int f = ground();
            both("spot(" + f + ", " + k + ")", x -> x.spot(f, k), m -> m.spot(f, k));
        } else if (kind < 83) {
            int g = in(0, 3);
            both("boundOf(" + g + ", " + k + ")", x -> x.boundOf(g, k), m -> m.boundOf(g, k));
        } else {
            int i = in(0, 1);
            both("setting(" + i + ")", x -> x.setting(i), m -> m.setting(i));
        }
    }

    private void wouldBe(int kind) {
        int c = seat();
        int f = ground();
        if (kind < 86) {
            int what = in(0, 1);
            both("bestTurn(" + c + ", " + f + ", " + what + ")", x -> x.bestTurn(c, f, what), m -> m.bestTurn(c, f, what));
        } else if (kind < 87) {
            both("bestSaw(" + c + ")", x -> x.bestSaw(c), m -> m.bestSaw(c));
        } else if (kind < 88) {
            int v = in(1, 200);
            both("failsIn(" + c + ", " + v + ")", x -> x.failsIn(c, v), m -> m.failsIn(c, v));
        } else if (kind < 89) {
            both("bestFloor(" + c + ")", x -> x.bestFloor(c), m -> m.bestFloor(c));
        } else if (kind < 90) {
            both("sound()", x -> x.sound(), m -> m.sound());
        } else if (kind < 93) {
            int n = in(1, 3);
            long script = script(random.nextInt(12) == 0 ? random.nextInt(4) : n);
            both("runScript(" + n + ", " + script + ")", x -> x.runScript(n, script), m -> m.runScript(n, script));
        } else {
            long seed = random.nextLong();
            int m1 = in(1, 60);
            both("simulate(" + seed + ", " + m1 + ")", x -> x.simulate(seed, m1), m -> m.simulate(seed, m1));
        }
    }

    private long script(int groups) {
        if (random.nextInt(20) == 0) {
            return random.nextLong() >> random.nextInt(64);
        }
        long script = 0;
        for (int i = 0; i < groups && i < 3; i++) {
            script = script * 1000000 + Integer.parseInt(group());
        }
        return script;
    }

    private String group() {
        String c = digits(1, 0, random.nextInt(8) == 0 ? 9 : 1);
        String k = digits(1, 0, random.nextInt(12) == 0 ? 9 : 3);
        String zero = random.nextInt(15) == 0 ? digits(1, 0, 9) : "0";
        switch (1 + random.nextInt(9)) {
            case 1: return "1" + c + k + digits(3, 0, random.nextInt(4) == 0 ? 999 : 8);
            case 2: return "2" + c + k + zero + digits(2, 0, random.nextInt(4) == 0 ? 99 : 8);
            case 3: return "3" + c + digits(1, 0, random.nextBoolean() ? 3 : 0) + digits(1, 0, 4) + zero + "0";
            case 4: return "4" + c + "0" + zero + "0" + digits(1, 0, random.nextBoolean() ? 0 : 5);
            case 5: return "5" + c + zero + digits(3, 0, 210);
            case 6: return "6" + k + k + digits(3, 0, random.nextInt(3) == 0 ? 999 : 20);
            case 7: return "7" + c + zero + digits(3, 0, random.nextInt(3) == 0 ? 999 : 20);
            case 8: return "8" + c + zero + "00" + digits(1, 0, 2);
            default: return "9" + c + zero + digits(3, 0, random.nextInt(3) == 0 ? 999 : 20);
        }
    }

    private void slotsOrAll(int kind) {
        int slot = in(0, 1);
        if (kind < 96) {
            both("save(" + slot + ")", x -> x.save(slot), m -> m.save(slot));
        } else if (kind < 97) {
            both("restore(" + slot + ")", x -> x.restore(slot), m -> m.restore(slot));
        } else if (kind < 98) {
            everything();
        }
    }

    private void everything() {
        for (int i = 0; i <= 10; i++) {
            int what = i;
            both("about(" + i + ")", x -> x.about(what), m -> m.about(what));
            for (int j = 0; j < 11; j++) {
                int c = j;
                both("chairOf(" + c + ", " + i + ")", x -> x.chairOf(c, what), m -> m.chairOf(c, what));
            }
        }
        for (int i = 0; i < 16; i++) {
            int g = i / 4;
            int k = i % 4;
            both("spot(" + g + ", " + k + ")", x -> x.spot(g, k), m -> m.spot(g, k));
            both("boundOf(" + g + ", " + k + ")", x -> x.boundOf(g, k), m -> m.boundOf(g, k));
        }
    }
}
