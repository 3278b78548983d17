import java.util.Random;

/** Runs of calls by chance (the same ones each time), on the class and on the Model. */
public final class ModelTest {
    private static final int RUNS = 1500, CALLS = 120;
    // Behind an object's 512th call nothing is due; one step of a run makes some thirty calls at most.
    private static final int LAST_STEP_AT = 475;
    private static final int[] FAR = {Integer.MIN_VALUE, Integer.MAX_VALUE, -1000, 1000, -3, 400, 256};

    private final Random random;
    private final RopeLadder x = new RopeLadder();
    private final Model model = new Model();
    private final int run;
    private int asked = 0;

    private ModelTest(int run) {
        this.run = run;
        random = new Random(run * 7919L);
    }

    public static void main(String[] args) {
        for (int run = 1; run <= RUNS; run++) {
            ModelTest test = new ModelTest(run);
            test.prepare();
            for (int i = 0; i < CALLS && test.asked < LAST_STEP_AT; i++) {
                test.callOne(test.random.nextInt(60));
            }
            test.askDigest();
        }
        Due.end("ModelTest");
    }

    private void due(String call, long got, long want) {
        asked++;
        Due.due("run " + run + ": " + call, got, want);
    }

    /** A number of a range, now and then one beside it or far off. */
    private int in(int least, int most) {
        int kind = random.nextInt(60);
        if (kind == 0) return least - 1;
        if (kind == 1) return most + 1;
        if (kind == 2) return FAR[random.nextInt(FAR.length)];
        if (kind == 3) return least;
        if (kind == 4) return most;
        return least + random.nextInt(most - least + 1);
    }

    private void type(int text, int b) {
        due("type(" + text + ", " + b + ")", x.type(text, b), model.type(text, b));
    }

    private void set(int what, int v) {
        due("set(" + what + ", " + v + ")", x.set(what, v), model.set(what, v));
    }

    private void typeSwells(int text, int many, int longest) {
        for (int i = 0; i < many; i++) {
            if (i > 0) type(text, ';');
            int length = 2 + random.nextInt(longest - 1);
            type(text, '0' + random.nextInt(10));
            type(text, '0' + length / 10);
            type(text, '0' + length % 10);
        }
    }

    private void prepare() {
        typeSwells(0, random.nextInt(7), random.nextBoolean() ? 99 : 12);
        if (random.nextInt(4) > 0) typeSwells(1, 1, 99);
        if (random.nextBoolean()) set(0, random.nextInt(300));
        if (random.nextBoolean()) set(3, random.nextInt(100));
        if (random.nextBoolean()) set(2, 1 + random.nextInt(30));
        if (random.nextBoolean()) set(1, 1 + random.nextInt(4));
    }

    private void callOne(int kind) {
        if (kind < 4) callText(kind);
        else if (kind < 10) callSetting();
        else if (kind < 19) callHeight(kind);
        else if (kind < 40) callStep(kind);
        else if (kind < 47) callSeen(kind);
        else callSheet(kind);
    }

    private void callText(int kind) {
        int text = in(0, 1);
        if (kind == 0) {
            int b = random.nextInt(4) == 0 ? in(0, 255) : "0123456789;".charAt(random.nextInt(11));
            type(text, b);
        }
        if (kind == 1) due("undo(" + text + ")", x.undo(text), model.undo(text));
        if (kind == 2 && random.nextInt(3) == 0) {
            due("wipe(" + text + ")", x.wipe(text), model.wipe(text));
            typeSwells(text == 1 ? 1 : 0, text == 1 ? 1 : 1 + random.nextInt(6), 99);
        }
        due("fault(" + text + ")", x.fault(text), model.fault(text));
        int swell = in(0, 5);
        int what = in(0, 1);
        due("swell(" + swell + ", " + what + ")", x.swell(swell, what), model.swell(swell, what));
        due("roll(" + what + ")", x.roll(what), model.roll(what));
    }

    private void callSetting() {
        int which = random.nextInt(4);
        if (which == 0) {
            int swell = in(0, 5);
            int v = in(0, 98);
            due("begins(" + swell + ", " + v + ")", x.begins(swell, v), model.begins(swell, v));
        } else if (which == 1) {
            int what = in(0, 1);
            int v = in(0, 399);
            due("lee(" + what + ", " + v + ")", x.lee(what, v), model.lee(what, v));
        } else {
            int what = in(0, 11);
            int[] most = {300, 12, 30, 99, 16, 16, 16, 16, 4, 4, 9, 9};
            set(what, in(0, what < 0 || what > 11 || random.nextInt(9) == 0 ? 999 : most[what]));
        }
    }

    private void callHeight(int kind) {
        int t = in(0, 399);
        String of = "(" + t;
        switch (kind) {
            case 10: case 11: due("high" + of + ")", x.high(t), model.high(t)); break;
            case 12: case 13: due("does" + of + ")", x.does(t), model.does(t)); break;
            case 14: due("leans" + of + ")", x.leans(t), model.leans(t)); break;
            case 15: case 16:
                int k = in(1, random.nextInt(3) == 0 ? 99 : 9);
                due("crest" + of + ", " + k + ")", x.crest(t, k), model.crest(t, k));
                break;
            case 17: due("seventh" + of + ")", x.seventh(t), model.seventh(t)); break;
            default:
                int many = in(1, 100);
                int what = in(0, 1);
                due("lull" + of + ", " + many + ", " + what + ")", x.lull(t, many, what), model.lull(t, many, what));
                break;
        }
    }

    private void callStep(int kind) {
        int t = in(0, 399);
        int within = kind < 34 ? in(1, 12) : in(1, 100);
        int what = in(0, 1);
        String of = "(" + t;
        String span = of + ", " + within;
        switch (kind) {
            case 20: case 21: case 22: due("step" + of + ")", x.step(t), model.step(t)); break;
            case 23: case 24: due("fall" + of + ")", x.fall(t), model.fall(t)); break;
            case 25: case 26: due("climb" + of + ")", x.climb(t), model.climb(t)); break;
            case 27: case 28: due("bangs" + of + ")", x.bangs(t), model.bangs(t)); break;
            case 29: case 30: due("safe" + of + ", " + what + ")", x.safe(t, what), model.safe(t, what)); break;
            case 31: due("best" + span + ")", x.best(t, within), model.best(t, within)); break;
            case 32: case 33: due("call" + span + ")", x.call(t, within), model.call(t, within)); break;
            case 34: case 35:
                due("down" + span + ", " + what + ")", x.down(t, within, what), model.down(t, within, what));
                break;
            case 36: case 37: due("ladder" + span + ")", x.ladder(t, within), model.ladder(t, within)); break;
            default: due("saves()", x.saves(), model.saves()); break;
        }
    }

    private void callSeen(int kind) {
        int swell = in(0, 3);
        int t = in(0, 399);
        if (kind == 40 || kind == 41) {
            int high = random.nextInt(5) == 0 ? in(0, 3000) : x.high(t);
            asked++;
            due("seen(" + t + ", " + high + ")", x.seen(t, high), model.seen(t, high));
        } else if (kind == 42 && random.nextInt(3) == 0) {
            due("forget()", x.forget(), model.forget());
        } else if (kind == 43) {
            due("read(" + swell + ")", x.read(swell), model.read(swell));
        } else if (kind == 44) {
            int seed = random.nextInt();
            int n = in(1, 20);
            due("night(" + seed + ", " + n + ")", x.night(seed, n), model.night(seed, n));
        } else {
            int i = random.nextInt(3) == 0 ? -1 : in(0, random.nextBoolean() ? 97 : 4);
            due("learn(" + swell + ", " + i + ")", x.learn(swell, i), model.learn(swell, i));
        }
    }

    private void callSheet(int kind) {
        int s = in(0, 3);
        int form = in(0, 2);
        int i = in(0, 9);
        if (kind < 49) {
            int n = in(0, random.nextInt(3) == 0 ? 48 : 9);
            due("sheet(" + s + ", " + form + ", " + n + ")", x.sheet(s, form, n), model.sheet(s, form, n));
        } else if (kind == 49 && random.nextInt(4) == 0) {
            due("lose(" + s + ")", x.lose(s), model.lose(s));
        } else if (kind < 52) {
            int v = random.nextBoolean() ? random.nextInt() : in(0, 399);
            due("put(" + s + ", " + form + ", " + i + ", " + v + ")", x.put(s, form, i, v), model.put(s, form, i, v));
        } else if (kind < 54) {
            due("get(" + s + ", " + form + ", " + i + ")", x.get(s, form, i), model.get(s, form, i));
        } else if (kind < 56) {
            int t = in(0, 3);
            int j = in(0, 9);
            int n = in(0, 5);
            String call = "copy(" + s + ", " + i + ", " + t + ", " + j + ", " + n + ")";
            due(call, x.copy(s, i, t, j, n), model.copy(s, i, t, j, n));
        } else if (kind < 57) {
            int t = in(0, 399);
            due("write(" + t + ", " + s + ")", x.write(t, s), model.write(t, s));
        } else {
            int what = in(0, 8);
            due("count(" + what + ")", x.count(what), model.count(what));
        }
        for (int item = 0; item < 10; item++) {
            due("get(" + s + ", " + form + ", " + item + ") behind it", x.get(s, form, item), model.get(s, form, item));
        }
        due("count(8)", x.count(8), model.count(8));
    }

    private void askDigest() {
        if (run % 10 == 0) {
            due("digest()", x.digest(), model.digest());
        }
    }
}
