import java.lang.reflect.InvocationTargetException;
import java.lang.reflect.Method;
import java.util.Arrays;

/** Long runs of calls, right and wrong ones, each compared with SlowMill. Each run has the 512 calls of an object. */
final class RunsTest {
    private static final int RUNS = 100;
    private static final int CALLS = 512;
    private static final int MOST_OTHER_CALLS = 3;
    private static final int[] FAR = {
        Integer.MIN_VALUE, Integer.MIN_VALUE + 1, -1000, -61, -10, -2, -1, 0, 10, 61, 1001, Integer.MAX_VALUE
    };
    private static final String[] NAMES = {
        "shape", "add", "cut", "move", "inequality", "isPlace", "count", "countAnew", "blown", "best",
        "index", "generator", "generatorAnew", "coin", "ways", "gap", "greatestGap", "tables"
    };
    /** How often each call is made, in the order of the names. */
    private static final int[] OFTEN = {6, 18, 10, 6, 4, 3, 6, 6, 6, 6, 2, 3, 3, 8, 3, 4, 4, 3};

    private static int wrong;
    private static int unknown;
    private static final int[][] told = new int[NAMES.length][4];
    private static final Method[] FACE = methods(PointMill.class);
    private static final Method[] SLOW = methods(SlowMill.class);

    public static void main(String[] args) {
        for (int run = 0; run < RUNS; run++) {
            runOnce(run);
        }
        for (int i = 0; i < NAMES.length; i++) {
            System.out.println(NAMES[i] + ": " + told[i][0] + " answers, " + told[i][1] + " no index, "
                    + told[i][2] + " no argument, " + told[i][3] + " no state");
            // A kind of call that never answered would have been tested in name alone.
            wrong += told[i][0] < 100 ? 1 : 0;
        }
        System.out.println(unknown + " counts too long for SlowMill, " + wrong + " wrong");
        if (wrong > 0) {
            System.exit(1);
        }
    }

    private static void runOnce(int run) {
        Dice dice = new Dice(run);
        PointMill mill = new PointMill();
        SlowMill slow = new SlowMill();
        for (int call = 0; call < CALLS; call++) {
            int name = name(dice);
            int[] parts = parts(name, run, dice);
            Object due = ask(slow, SLOW[name], parts);
            Object got = ask(mill, FACE[name], parts);
            if (due.equals(SlowMill.UNKNOWN)) {
                unknown++;
                boolean isOtherWay = !NAMES[name].equals("best") && call + MOST_OTHER_CALLS < CALLS;
                due = isOtherWay ? (Object) askOtherWay(mill, NAMES[name], parts) : got;
                call += isOtherWay ? MOST_OTHER_CALLS : 0;
            }
            note(name, due);
            if (!got.equals(due)) {
                wrong++;
                System.out.println("run " + run + ", call " + call + ": " + NAMES[name]
                        + Arrays.toString(parts) + " told " + got + ", due is " + due);
            }
        }
    }

    private static void note(int name, Object due) {
        int kind = due == IndexOutOfBoundsException.class ? 1
                : due == IllegalArgumentException.class ? 2 : due == IllegalStateException.class ? 3 : 0;
        told[name][kind]++;
    }

    private static int name(Dice dice) {
        int sum = 0;
        for (int often : OFTEN) {
            sum += often;
        }
        int left = dice.below(sum);
        int name = 0;
        while (left >= OFTEN[name]) {
            left -= OFTEN[name];
            name++;
        }
        return name;
    }

    private static int from(Dice dice, int least, int most) {
        return least + dice.below(most - least + 1);
    }

    /** Arguments in their ranges; now and then one that is far off. */
    private static int[] parts(int name, int run, Dice dice) {
        int[] p = rightParts(name, run, dice);
        if (p.length > 0 && dice.below(12) == 0) {
            p[dice.below(p.length)] = FAR[dice.below(FAR.length)];
        }
        return p;
    }

    private static int[] rightParts(int name, int run, Dice dice) {
        int shape = dice.below(8);
        // Runs of small shapes are those that SlowMill can count.
        int far = run % 3 == 0 ? 99 : 12;
        int number = dice.below(6);
        switch (NAMES[name]) {
            case "add":
                return new int[] {
                    shape, from(dice, -9, 9), from(dice, -9, 9), from(dice, run % 5 == 0 ? -far : 0, far),
                    dice.below(6) == 0 ? from(dice, -9, 9) : 0
                };
            case "cut":
                return new int[] {
                    shape, dice.below(4), dice.below(dice.yes() ? 10 : 3),
                    dice.below(4), dice.below(dice.yes() ? 10 : 3),
                    dice.yes() ? 1 : from(dice, 1, dice.yes() ? 20 : 3)
                };
            case "move":
                return new int[] {shape, dice.below(3)};
            case "inequality":
                return new int[] {shape, number, dice.below(4)};
            case "isPlace":
                return new int[] {shape};
            case "count":
            case "countAnew":
                return new int[] {shape, dice.below(10)};
            case "blown":
                return new int[] {shape, dice.below(10), dice.below(2)};
            case "best":
                return new int[] {
                    shape, dice.below(10), from(dice, -99, 99), from(dice, -99, 99), dice.below(3)
                };
            case "index":
                return vectors(dice, 4);
            case "generator":
            case "generatorAnew":
                return vectors(dice, 6);
            case "coin":
                return new int[] {dice.yes() ? from(dice, 1, 60) : from(dice, 1, 10) * 6};
            case "ways":
                return new int[] {from(dice, 0, 1000)};
            case "gap":
                return new int[] {dice.yes() ? -1 : dice.below(30)};
            case "tables":
                return new int[] {
                    from(dice, 0, 60), from(dice, 0, 60), from(dice, 0, 60), from(dice, 0, 60)
                };
            default:
                return new int[0];
        }
    }

    private static int[] vectors(Dice dice, int size) {
        int most = dice.yes() ? 20 : 5;
        int[] p = new int[size];
        for (int i = 0; i < 4; i++) {
            p[i] = from(dice, -most, most);
        }
        if (size > 4) {
            p[4] = from(dice, -1, 6);
            p[5] = dice.below(2);
        }
        return p;
    }

    private static Method[] methods(Class<?> face) {
        Method[] methods = new Method[NAMES.length];
        for (int i = 0; i < NAMES.length; i++) {
            methods[i] = method(face, NAMES[i]);
        }
        return methods;
    }

    private static Method method(Class<?> face, String name) {
        for (Method method : face.getDeclaredMethods()) {
            if (method.getName().equals(name)) {
                return method;
            }
        }
        throw new AssertionError(name);
    }

    /** The answer of the call as a Long, or the class of what it throws. */
    private static Object ask(Object mill, Method method, int[] parts) {
        Object[] arguments = new Object[parts.length];
        for (int i = 0; i < parts.length; i++) {
            boolean isNumber = method.getParameterTypes()[i] == int.class;
            arguments[i] = isNumber ? (Object) parts[i] : (Object) (parts[i] == 1);
        }
        try {
            Object answer = method.invoke(mill, arguments);
            return answer instanceof Boolean ? ((Boolean) answer ? 1L : 0L) : ((Number) answer).longValue();
        } catch (InvocationTargetException thrown) {
            return thrown.getCause().getClass();
        } catch (IllegalAccessException closed) {
            throw new AssertionError(closed);
        }
    }

    /** The same count by rows for columns; of a blown one also by a move that is undone. */
    private static long askOtherWay(PointMill mill, String name, int[] p) {
        switch (name) {
            case "count":
                return mill.countAnew(p[0], p[1]);
            case "countAnew":
                return mill.count(p[0], p[1]);
            default:
                mill.move(p[0], PointMill.SWAP);
                long other = mill.blown(p[0], p[1], p[2] == 1);
                mill.move(p[0], PointMill.SWAP);
                return other;
        }
    }
}
