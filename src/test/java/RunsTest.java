import java.util.Random;

/** Long runs of calls, right and wrong ones, each compared with SlowMill. Each run has 512 calls. */
final class RunsTest {
    private static final int RUNS = 100;
    private static final int CALLS = 512;
    private static final int[] FAR = {
        Integer.MIN_VALUE, Integer.MIN_VALUE + 1, -1000, -61, -10, -2, -1, 0, 10, 61, 1001, Integer.MAX_VALUE
    };
    private static final String[] NAMES = {
        "shape", "add", "cut", "move", "inequality", "isPlace", "count", "countAnew", "blown", "best",
        "index", "generator", "generatorAnew", "coin", "ways", "gap", "greatestGap", "tables"
    };
    /** How often each call is made, in the order of the names. */
    private static final int[] OFTEN = {6, 18, 10, 6, 4, 3, 6, 6, 6, 6, 2, 3, 3, 8, 3, 4, 4, 3};

    private static int wrong;
    private static int unknown;
    private static final int[][] told = new int[NAMES.length][4];

    public static void main(String[] args) {
        for (int run = 0; run < RUNS; run++) {
            runOnce(run);
        }
        for (int i = 0; i < NAMES.length; i++) {
            System.out.println(NAMES[i] + ": " + told[i][0] + " answers, " + told[i][1] + " no index, "
                    + told[i][2] + " no argument, " + told[i][3] + " no state");
            // A kind of call that never answered would have been tested in name alone.
            wrong += told[i][0] < 100 ? 1 : 0;
        }
        System.out.println(unknown + " counts too long for SlowMill, " + wrong + " wrong");
        if (wrong > 0) {
            System.exit(1);
        }
    }

    private static void runOnce(int run) {
        Random random = new Random(run);
        PointMill mill = new PointMill();
        SlowMill slow = new SlowMill();
        for (int call = 0; call < CALLS; call++) {
            int name = name(random);
            int[] parts = parts(name, run, random);
            Object due = answer(() -> askSlow(slow, name, parts));
            Object got = answer(() -> ask(mill, name, parts));
            if (due.equals(SlowMill.UNKNOWN)) {
                unknown++;
                due = name == 9 ? got : answer(() -> askOtherWay(mill, name, parts));
            }
            note(name, due);
            if (!got.equals(due)) {
                wrong++;
                System.out.println("run " + run + ", call " + call + ": " + NAMES[name]
                        + java.util.Arrays.toString(parts) + " told " + got + ", due is " + due);
            }
        }
    }

    private static void note(int name, Object due) {
        int kind = due == IndexOutOfBoundsException.class ? 1
                : due == IllegalArgumentException.class ? 2 : due == IllegalStateException.class ? 3 : 0;
        told[name][kind]++;
    }

    private static Object answer(Check.Call call) {
        try {
            return call.answer();
        } catch (RuntimeException thrown) {
            return thrown.getClass();
        }
    }

    private static int name(Random random) {
        int sum = 0;
        for (int often : OFTEN) {
            sum += often;
        }
        int left = random.nextInt(sum);
        int name = 0;
        while (left >= OFTEN[name]) {
            left -= OFTEN[name];
            name++;
        }
        return name;
    }

    private static int from(Random random, int least, int most) {
        return least + random.nextInt(most - least + 1);
    }

    /** Arguments in their ranges; now and then one that is far off. */
    private static int[] parts(int name, int run, Random random) {
        int[] p = rightParts(name, run, random);
        if (p.length > 0 && random.nextInt(12) == 0) {
            p[random.nextInt(p.length)] = FAR[random.nextInt(FAR.length)];
        }
        return p;
    }

    private static int[] rightParts(int name, int run, Random random) {
        int shape = random.nextInt(8);
        // Runs of small shapes are those that SlowMill can count.
        int far = run % 3 == 0 ? 99 : 12;
        int number = random.nextInt(6);
        switch (name) {
            case 1:
                return new int[] {
                    shape, from(random, -9, 9), from(random, -9, 9), from(random, run % 5 == 0 ? -far : 0, far),
                    random.nextInt(6) == 0 ? from(random, -9, 9) : 0
                };
            case 2:
                return new int[] {
                    shape, random.nextInt(4), random.nextInt(random.nextBoolean() ? 10 : 3),
                    random.nextInt(4), random.nextInt(random.nextBoolean() ? 10 : 3),
                    random.nextBoolean() ? 1 : from(random, 1, random.nextBoolean() ? 20 : 3)
                };
            case 3:
                return new int[] {shape, random.nextInt(3)};
            case 4:
                return new int[] {shape, number, random.nextInt(4)};
            case 5:
                return new int[] {shape};
            case 6:
            case 7:
                return new int[] {shape, random.nextInt(10)};
            case 8:
                return new int[] {shape, random.nextInt(10), random.nextInt(2)};
            case 9:
                return new int[] {
                    shape, random.nextInt(10), from(random, -99, 99), from(random, -99, 99), random.nextInt(3)
                };
            case 10:
                return vectors(random, 4);
            case 11:
            case 12:
                return vectors(random, 6);
            case 13:
                return new int[] {random.nextBoolean() ? from(random, 1, 60) : from(random, 1, 10) * 6};
            case 14:
                return new int[] {from(random, 0, 1000)};
            case 15:
                return new int[] {random.nextBoolean() ? -1 : random.nextInt(30)};
            case 17:
                return new int[] {
                    from(random, 0, 60), from(random, 0, 60), from(random, 0, 60), from(random, 0, 60)
                };
            default:
                return new int[0];
        }
    }

    private static int[] vectors(Random random, int size) {
        int most = random.nextBoolean() ? 20 : 5;
        int[] p = new int[size];
        for (int i = 0; i < 4; i++) {
            p[i] = from(random, -most, most);
        }
        if (size > 4) {
            p[4] = from(random, -1, 6);
            p[5] = random.nextInt(2);
        }
        return p;
    }

    private static long ask(PointMill m, int name, int[] p) {
        switch (name) {
            case 0: return m.shape();
            case 1: return m.add(p[0], p[1], p[2], p[3], p[4]);
            case 2: return m.cut(p[0], p[1], p[2], p[3], p[4], p[5]);
            case 3: return m.move(p[0], p[1]);
            case 4: return m.inequality(p[0], p[1], p[2]);
            case 5: return m.isPlace(p[0]) ? 1 : 0;
            case 6: return m.count(p[0], p[1]);
            case 7: return m.countAnew(p[0], p[1]);
            case 8: return m.blown(p[0], p[1], p[2] == 1);
            case 9: return m.best(p[0], p[1], p[2], p[3], p[4]);
            case 10: return m.index(p[0], p[1], p[2], p[3]);
            case 11: return m.generator(p[0], p[1], p[2], p[3], p[4], p[5] == 1);
            case 12: return m.generatorAnew(p[0], p[1], p[2], p[3], p[4], p[5] == 1);
            case 13: return m.coin(p[0]);
            case 14: return m.ways(p[0]);
            case 15: return m.gap(p[0]);
            case 16: return m.greatestGap();
            default: return m.tables(p[0], p[1], p[2], p[3]);
        }
    }

    private static long askSlow(SlowMill m, int name, int[] p) {
        switch (name) {
            case 0: return m.shape();
            case 1: return m.add(p[0], p[1], p[2], p[3], p[4]);
            case 2: return m.cut(p[0], p[1], p[2], p[3], p[4], p[5]);
            case 3: return m.move(p[0], p[1]);
            case 4: return m.inequality(p[0], p[1], p[2]);
            case 5: return m.isPlace(p[0]) ? 1 : 0;
            case 6:
            case 7: return m.count(p[0], p[1]);
            case 8: return m.blown(p[0], p[1], p[2] == 1);
            case 9: return m.best(p[0], p[1], p[2], p[3], p[4]);
            case 10: return m.index(p[0], p[1], p[2], p[3]);
            case 11:
            case 12: return m.generator(p[0], p[1], p[2], p[3], p[4], p[5] == 1);
            case 13: return m.coin(p[0]);
            case 14: return m.ways(p[0]);
            case 15: return m.gap(p[0]);
            case 16: return m.greatestGap();
            default: return m.tables(p[0], p[1], p[2], p[3]);
        }
    }

    /** The same count, by rows for columns and after a move that keeps it and is undone. */
    private static long askOtherWay(PointMill m, int name, int[] p) {
        if (name == 6) {
            return m.countAnew(p[0], p[1]);
        }
        if (name == 7) {
            return m.count(p[0], p[1]);
        }
        m.move(p[0], PointMill.SWAP);
        long other = m.blown(p[0], p[1], p[2] == 1);
        m.move(p[0], PointMill.SWAP);
        return other;
    }
}
