/**
 * Each refused call: it throws what the document names for it, the first line of the throws clause that applies
 * decides, and it changes nothing. Each is made on a mill of its own, which is compared with a like one that was not
 * asked.
 */
final class RefusalsTest {
    interface Recipe {
        PointMill make();
    }

    private static final Check check = new Check();
    private static final Class<IndexOutOfBoundsException> INDEX = IndexOutOfBoundsException.class;
    private static final Class<IllegalArgumentException> ARGUMENT = IllegalArgumentException.class;
    private static final Class<IllegalStateException> STATE = IllegalStateException.class;

    private static final int[] NO_SHAPES = {-1, Busy.SHAPES, 7, 8, Integer.MIN_VALUE, Integer.MAX_VALUE, 1 << 16};

    private static Recipe recipe;

    public static void main(String[] args) {
        recipe = Busy::mill;
        promise2Shape();
        promise3Add();
        promise4CutOrder();
        promise4Cut();
        promise4CutEnds();
        promise5Move();
        promise5Slide();
        recipe = Busy::mill;
        promise6Inequality();
        promise7IsPlace();
        promise8And9Counts();
        promise10Blown();
        promise11Best();
        promise12Index();
        promise13And14Generators();
        promise15Coin();
        promise16Ways();
        promise17Gap();
        promise17And18Endless();
        promise19Tables();
        check.end();
    }

    private static void refused(String text, Class<? extends RuntimeException> due, Mills.Ask ask) {
        PointMill mill = recipe.make();
        check.thrown(text, due, () -> ask.of(mill));
        check.same(text + ", what it leaves", State.of(recipe.make()), State.of(mill));
    }

    private static void promise2Shape() {
        check.sentence("shape: IllegalStateException if there are 8");
        Recipe kept = recipe;
        recipe = () -> {
            PointMill mill = new PointMill();
            for (int i = 0; i < 8; i++) {
                mill.shape();
                mill.add(i, i + 1, -1, i, -i);
            }
            return mill;
        };
        refused("a ninth shape", STATE, mill -> mill.shape());
        recipe = kept;
    }

    private static void promise3Add() {
        check.sentence("add: IndexOutOfBoundsException if there is no such shape");
        for (int shape : NO_SHAPES) {
            refused("add to " + shape, INDEX, mill -> mill.add(shape, 1, 1, 1, 1));
            refused("add wrong ones to " + shape, INDEX, mill -> mill.add(shape, 0, 0, 100, 10));
        }
        check.sentence("add: IllegalArgumentException if an argument is out of range, or a and b are both 0");
        for (int shape : new int[] {Busy.TRIANGLE, Busy.NOTHING, Busy.FULL}) {
            for (int far : Mills.beyond(-9, 9)) {
                refused("add a " + far, ARGUMENT, mill -> mill.add(shape, far, 1, 1, 1));
                refused("add b " + far, ARGUMENT, mill -> mill.add(shape, 1, far, 1, 1));
                refused("add e " + far, ARGUMENT, mill -> mill.add(shape, 1, 1, 1, far));
            }
            for (int far : Mills.beyond(-99, 99)) {
                refused("add c " + far, ARGUMENT, mill -> mill.add(shape, 1, 1, far, 1));
            }
            refused("add 0 and 0", ARGUMENT, mill -> mill.add(shape, 0, 0, 1, 1));
        }
        check.sentence("add: IllegalStateException if there are 10");
        refused("an eleventh one", STATE, mill -> mill.add(Busy.FULL, 1, 1, 1, 1));
    }

    private static void promise4CutOrder() {
        check.sentence("cut: IndexOutOfBoundsException if there is no such shape or inequality");
        for (int shape : NO_SHAPES) {
            refused("cut " + shape, INDEX, mill -> mill.cut(shape, 0, 1, 1, 1, 1));
            refused("cut wrongly " + shape, INDEX, mill -> mill.cut(shape, 0, 10, 1, -1, 0));
        }
        for (int shape = 0; shape < Busy.SHAPES; shape++) {
            int asked = shape;
            for (int number : new int[] {-1, Busy.SIZES[shape], 10, Integer.MIN_VALUE, Integer.MAX_VALUE}) {
                refused("cut, one " + number, INDEX, mill -> mill.cut(asked, number, 1, 0, 1, 1));
                refused("cut, other " + number, INDEX, mill -> mill.cut(asked, 0, 1, number, 1, 1));
                refused("cut, one 0 times " + number, INDEX, mill -> mill.cut(asked, number, 0, 0, 1, 1));
                refused("cut, other 0 times " + number, INDEX, mill -> mill.cut(asked, 0, 1, number, 0, 1));
                refused("cut wrongly, one " + number, INDEX, mill -> mill.cut(asked, number, 10, 0, -1, 21));
                refused("cut wrongly, other " + number, INDEX, mill -> mill.cut(asked, 0, -1, number, 10, 0));
            }
        }
        check.sentence("cut: IllegalArgumentException if some, more or by is out of range");
        for (int shape : new int[] {Busy.FULL, Busy.TRIANGLE}) {
            for (int far : Mills.beyond(0, 9)) {
                refused("cut, some " + far, ARGUMENT, mill -> mill.cut(shape, 2, far, 0, 1, 1));
                refused("cut, more " + far, ARGUMENT, mill -> mill.cut(shape, 2, 1, 0, far, 1));
                refused("cut, the same, some " + far, ARGUMENT, mill -> mill.cut(shape, 0, far, 0, 0, 1));
                refused("cut, the same, more " + far, ARGUMENT, mill -> mill.cut(shape, 0, 0, 0, far, 1));
            }
            for (int far : Mills.beyond(1, 20)) {
                refused("cut, by " + far, ARGUMENT, mill -> mill.cut(shape, 2, 1, 0, 1, far));
            }
        }
        check.sentence("cut: IllegalStateException if there are 10");
        refused("an eleventh one", STATE, mill -> mill.cut(Busy.FULL, 0, 1, 1, 2, 1));
    }

    private static void promise4Cut() {
        recipe = () -> Mills.of(2, 3, 99, 0, -2, -3, -99, 0, 1, 1, 1, 1, 1, 1, 1, -1, 4, 0, 8, 0, 0, 4, 8, 0);
        check.sentence("cut: IllegalStateException if one has a letter, also one that is taken 0 times");
        for (int letter : new int[] {2, 3}) {
            refused("the one has a letter", STATE, mill -> mill.cut(0, letter, 1, 0, 1, 1));
            refused("the other one has a letter", STATE, mill -> mill.cut(0, 0, 1, letter, 1, 1));
            refused("the one has a letter, 0 times", STATE, mill -> mill.cut(0, letter, 0, 0, 1, 1));
            refused("the other one has a letter, 0 times", STATE, mill -> mill.cut(0, 0, 1, letter, 0, 1));
        }
        refused("both have letters, together none", STATE, mill -> mill.cut(0, 2, 1, 3, 1, 1));
        refused("twice the one with a letter", STATE, mill -> mill.cut(0, 2, 1, 2, 1, 1));
        check.sentence("cut: IllegalStateException if the sum of a or b cannot be divided");
        refused("a of 2 by 3", STATE, mill -> mill.cut(0, 0, 1, 0, 0, 3));
        refused("b of 3 by 2", STATE, mill -> mill.cut(0, 0, 1, 0, 0, 2));
        refused("a of -2 by 3", STATE, mill -> mill.cut(0, 1, 1, 1, 0, 3));
        refused("b of -3 by 2", STATE, mill -> mill.cut(0, 1, 0, 1, 1, 2));
        refused("a of 4 by 8", STATE, mill -> mill.cut(0, 4, 1, 4, 0, 8));
        refused("b of 4 by 20", STATE, mill -> mill.cut(0, 5, 1, 5, 0, 20));
        check.sentence("cut: IllegalStateException if both would be 0");
        refused("both would be 0", STATE, mill -> mill.cut(0, 0, 1, 1, 1, 1));
        refused("both would be 0, by 20", STATE, mill -> mill.cut(0, 0, 9, 1, 9, 20));
        refused("both are taken 0 times", STATE, mill -> mill.cut(0, 4, 0, 5, 0, 1));
    }

    /** Just above what a, b and c may be, and just below. */
    private static void promise4CutEnds() {
        check.sentence("cut: IllegalStateException if one would be out of its range");
        recipe = () -> {
            PointMill mill = Mills.of(6, -6, 0, 0, -6, 6, 0, 0, 1, 0, 0, 0, 0, 1, 0, 0, -1, 0, 0, 0, 0, -1, 0, 0);
            mill.cut(0, 0, 9, 0, 1, 1);
            mill.cut(0, 1, 9, 1, 1, 1);
            return mill;
        };
        refused("a of 61", STATE, mill -> mill.cut(0, 6, 1, 2, 1, 1));
        refused("b of 61", STATE, mill -> mill.cut(0, 7, 1, 3, 1, 1));
        refused("a of -61", STATE, mill -> mill.cut(0, 7, 1, 4, 1, 1));
        refused("b of -61", STATE, mill -> mill.cut(0, 6, 1, 5, 1, 1));
        refused("a of 122 by 2", STATE, mill -> mill.cut(0, 6, 2, 2, 2, 2));
        recipe = () -> {
            PointMill mill = Mills.of(1, 0, 99, 0, 0, 1, 12, 0, 0, 2, 2, 0, 1, 0, 1, 0);
            mill.cut(0, 0, 9, 1, 9, 1);
            return mill;
        };
        refused("c of 1000", STATE, mill -> mill.cut(0, 4, 1, 3, 1, 1));
        refused("c of 2000 by 2", STATE, mill -> mill.cut(0, 4, 2, 2, 1, 2));
        recipe = () -> {
            PointMill mill = Mills.of(1, 0, -99, 0, 0, 1, -12, 0, 0, 2, -1, 0, 1, 0, -1, 0);
            mill.cut(0, 0, 9, 1, 9, 1);
            return mill;
        };
        refused("c of -1000", STATE, mill -> mill.cut(0, 4, 1, 3, 1, 1));
        refused("c of -1999 by 2, which is rounded down", STATE, mill -> mill.cut(0, 4, 2, 2, 1, 2));
    }

    private static void promise5Move() {
        recipe = Busy::mill;
        check.sentence("move: IndexOutOfBoundsException if there is no such shape");
        for (int shape : NO_SHAPES) {
            for (int move : new int[] {-1, 0, 1, 2, 3}) {
                refused("move " + move + " of " + shape, INDEX, mill -> mill.move(shape, move));
            }
        }
        check.sentence("move: IllegalArgumentException if move is out of range");
        for (int shape : new int[] {Busy.TRIANGLE, Busy.FULL, Busy.NOTHING}) {
            for (int move : Mills.beyond(0, 2)) {
                refused("move " + move, ARGUMENT, mill -> mill.move(shape, move));
            }
        }
    }

    /** The refused b stands first, last and in between: those on either side must not have moved. */
    private static void promise5Slide() {
        check.sentence("move: IllegalStateException if some b would be out of its range");
        for (int sign : new int[] {1, -1}) {
            recipe = () -> {
                PointMill mill = Mills.of(0, 6 * sign, 0, 0, -sign, 6 * sign, 0, 0);
                mill.cut(0, 0, 9, 1, 1, 1);
                return mill;
            };
            refused("the last b, " + 61 * sign, STATE, mill -> mill.move(0, PointMill.SLIDE));
            Recipe last = recipe;
            recipe = () -> {
                PointMill mill = last.make();
                mill.add(0, 5, 4, 3, 2);
                return mill;
            };
            refused("a b in between, " + 61 * sign, STATE, mill -> mill.move(0, PointMill.SLIDE));
            recipe = () -> {
                PointMill mill = Mills.of(-9 * sign, 6 * sign, 0, 0);
                for (int i = 0; i < 6; i++) {
                    mill.move(0, PointMill.SLIDE);
                }
                mill.add(0, 5, 4, 3, 2);
                return mill;
            };
            refused("the first b, " + 69 * sign, STATE, mill -> mill.move(0, PointMill.SLIDE));
        }
    }

    private static void promise6Inequality() {
        check.sentence("inequality: IndexOutOfBoundsException if there is no such shape or inequality");
        for (int shape : NO_SHAPES) {
            refused("of shape " + shape, INDEX, mill -> mill.inequality(shape, 0, 0));
            refused("wrongly of shape " + shape, INDEX, mill -> mill.inequality(shape, -1, 4));
        }
        for (int shape = 0; shape < Busy.SHAPES; shape++) {
            int asked = shape;
            for (int number : new int[] {-1, Busy.SIZES[shape], 10, Integer.MIN_VALUE, Integer.MAX_VALUE, 1 << 16}) {
                for (int what : new int[] {0, 3, -1, 4}) {
                    refused("inequality " + number, INDEX, mill -> mill.inequality(asked, number, what));
                }
            }
        }
        check.sentence("inequality: IllegalArgumentException if what is out of range");
        for (int what : Mills.beyond(0, 3)) {
            refused("what " + what, ARGUMENT, mill -> mill.inequality(Busy.TRIANGLE, 0, what));
            refused("what " + what, ARGUMENT, mill -> mill.inequality(Busy.FULL, 9, what));
        }
    }

    private static void promise7IsPlace() {
        check.sentence("isPlace: IndexOutOfBoundsException if there is no such shape");
        for (int shape : NO_SHAPES) {
            refused("isPlace " + shape, INDEX, mill -> Mills.number(mill.isPlace(shape)));
        }
    }

    private static void promise8And9Counts() {
        check.sentence("count, countAnew: IndexOutOfBoundsException if there is no such shape");
        for (int shape : NO_SHAPES) {
            for (int letter : new int[] {0, -1, 10}) {
                refused("count of " + shape, INDEX, mill -> mill.count(shape, letter));
                refused("countAnew of " + shape, INDEX, mill -> mill.countAnew(shape, letter));
            }
        }
        check.sentence("count, countAnew: IllegalArgumentException if letter is out of range");
        for (int shape = 0; shape < Busy.SHAPES; shape++) {
            int asked = shape;
            for (int letter : Mills.beyond(0, 9)) {
                refused("count by " + letter, ARGUMENT, mill -> mill.count(asked, letter));
                refused("countAnew by " + letter, ARGUMENT, mill -> mill.countAnew(asked, letter));
            }
        }
        check.sentence("count, countAnew: IllegalStateException if it is no place");
        for (int shape : new int[] {Busy.NOTHING, Busy.QUARTER}) {
            for (int letter : new int[] {0, 9}) {
                refused("count of " + shape, STATE, mill -> mill.count(shape, letter));
                refused("countAnew of " + shape, STATE, mill -> mill.countAnew(shape, letter));
            }
        }
    }

    private static void promise10Blown() {
        for (boolean inner : new boolean[] {false, true}) {
            check.sentence("blown: IndexOutOfBoundsException if there is no such shape");
            for (int shape : NO_SHAPES) {
                for (int times : new int[] {0, -1, 10}) {
                    refused("blown " + shape, INDEX, mill -> mill.blown(shape, times, inner));
                }
            }
            check.sentence("blown: IllegalArgumentException if times is out of range");
            for (int shape = 0; shape < Busy.SHAPES; shape++) {
                int asked = shape;
                for (int times : Mills.beyond(0, 9)) {
                    refused("blown by " + times, ARGUMENT, mill -> mill.blown(asked, times, inner));
                }
            }
            check.sentence("blown: IllegalStateException if it is no place");
            for (int shape : new int[] {Busy.NOTHING, Busy.QUARTER}) {
                for (int times : new int[] {0, 1, 9}) {
                    refused("blown by " + times, STATE, mill -> mill.blown(shape, times, inner));
                }
            }
        }
    }

    private static void promise11Best() {
        check.sentence("best: IndexOutOfBoundsException if there is no such shape");
        for (int shape : NO_SHAPES) {
            refused("best of " + shape, INDEX, mill -> mill.best(shape, 0, 1, 1, 0));
            refused("best, wrongly, of " + shape, INDEX, mill -> mill.best(shape, 10, 100, -100, 3));
        }
        check.sentence("best: IllegalArgumentException if another argument is out of range");
        for (int shape = 0; shape < Busy.SHAPES; shape++) {
            int asked = shape;
            for (int far : Mills.beyond(0, 9)) {
                refused("best, letter " + far, ARGUMENT, mill -> mill.best(asked, far, 1, 1, 0));
            }
            for (int far : Mills.beyond(-99, 99)) {
                refused("best, p " + far, ARGUMENT, mill -> mill.best(asked, 0, far, 1, 0));
                refused("best, q " + far, ARGUMENT, mill -> mill.best(asked, 0, 1, far, 0));
            }
            for (int far : Mills.beyond(0, 2)) {
                refused("best, what " + far, ARGUMENT, mill -> mill.best(asked, 0, 1, 1, far));
            }
        }
        check.sentence("best: IllegalStateException if it is no place, or has no points");
        for (int shape : new int[] {Busy.NOTHING, Busy.QUARTER, Busy.NO_POINTS}) {
            for (int what = 0; what <= 2; what++) {
                int asked = what;
                refused("best of " + shape, STATE, mill -> mill.best(shape, 0, 1, 1, asked));
                refused("best of " + shape + ", wherever", STATE, mill -> mill.best(shape, 9, 0, 0, asked));
            }
        }
    }

    private static final int[][] MULTIPLES = {
        {0, 0, 0, 1}, {0, 1, 0, 0}, {0, 0, 0, 0}, {1, 2, 1, 2}, {1, 2, 2, 4}, {2, 4, 1, 2}, {2, 4, 3, 6},
        {1, 0, -1, 0}, {0, -3, 0, 5}, {6, -4, -9, 6}, {20, 20, -20, -20}, {20, 0, 1, 0}, {0, 0, 20, -20}
    };

    private static void promise12Index() {
        check.sentence("index: IllegalArgumentException if one is out of range");
        for (int far : Mills.beyond(-20, 20)) {
            refused("x " + far, ARGUMENT, mill -> mill.index(far, 1, 1, 0));
            refused("y " + far, ARGUMENT, mill -> mill.index(1, far, 1, 0));
            refused("v " + far, ARGUMENT, mill -> mill.index(1, 0, far, 1));
            refused("w " + far, ARGUMENT, mill -> mill.index(1, 0, 1, far));
        }
        check.sentence("index: IllegalArgumentException if one vector is a multiple of the other one, 0 times it too");
        for (int[] m : MULTIPLES) {
            refused(java.util.Arrays.toString(m), ARGUMENT, mill -> mill.index(m[0], m[1], m[2], m[3]));
        }
    }

    private static Mills.Ask generator(boolean anew, int place, int... cone) {
        return mill -> Cones.ask(mill, anew, cone, place, true);
    }

    private static void promise13And14Generators() {
        for (boolean anew : new boolean[] {false, true}) {
            String name = anew ? "generatorAnew" : "generator";
            check.sentence(name + ": IndexOutOfBoundsException if place is below NONE");
            for (int place : new int[] {-2, -3, Integer.MIN_VALUE}) {
                refused("place " + place, INDEX, generator(anew, place, 1, 0, 3, 7));
                refused("no cone, place " + place, INDEX, generator(anew, place, 0, 0, 1, 0));
                refused("too far, place " + place, INDEX, generator(anew, place, 21, 0, 0, 1));
            }
            check.sentence(name + ": IndexOutOfBoundsException if the cone, there being one, has no such generator");
            for (int place : new int[] {4, 5, 7, 8, 1000, Integer.MAX_VALUE, 1 << 16}) {
                refused("place " + place, INDEX, generator(anew, place, 1, 0, 3, 7));
            }
            refused("of two, place 2", INDEX, generator(anew, 2, 1, 0, 0, 1));
            refused("of 41, place 41", INDEX, generator(anew, 41, 1, -20, 1, 20));
            for (int place : new int[] {PointMill.NONE, 0, 1000, Integer.MAX_VALUE}) {
                check.sentence(name + ": IllegalArgumentException if one vector is a multiple of the other one");
                for (int[] m : MULTIPLES) {
                    refused("place " + place, ARGUMENT, generator(anew, place, m));
                }
                check.sentence(name + ": IllegalArgumentException if one of the four is out of range");
                for (int far : Mills.beyond(-20, 20)) {
                    refused("x " + far, ARGUMENT, generator(anew, place, far, 1, 1, 0));
                    refused("y " + far, ARGUMENT, generator(anew, place, 1, far, 1, 0));
                    refused("v " + far, ARGUMENT, generator(anew, place, 1, 0, far, 1));
                    refused("w " + far, ARGUMENT, generator(anew, place, 1, 0, 1, far));
                }
            }
        }
    }

    private static void promise15Coin() {
        Recipe[] recipes = {Busy::mill, PointMill::new, () -> Mills.withCoins(1, 60)};
        check.sentence("coin: IllegalArgumentException if value is out of range");
        for (Recipe each : recipes) {
            recipe = each;
            for (int value : Mills.beyond(1, 60)) {
                refused("coin " + value, ARGUMENT, mill -> mill.coin(value));
            }
        }
        check.sentence("coin: IllegalStateException if there would be more than 6");
        recipe = Busy::mill;
        for (int value : new int[] {1, 2, 5, 8, 58}) {
            refused("a seventh coin, " + value, STATE, mill -> mill.coin(value));
        }
    }

    private static void promise16Ways() {
        check.sentence("ways: IllegalArgumentException if sum is out of range");
        Recipe[] recipes = {Busy::mill, PointMill::new};
        for (Recipe each : recipes) {
            recipe = each;
            for (int sum : Mills.beyond(0, 1000)) {
                refused("ways " + sum, ARGUMENT, mill -> mill.ways(sum));
            }
        }
    }

    private static void promise17Gap() {
        recipe = () -> Mills.withCoins(6, 10, 15);
        check.sentence("gap: IndexOutOfBoundsException if place is below NONE");
        for (int place : new int[] {-2, -3, Integer.MIN_VALUE}) {
            refused("place " + place, INDEX, mill -> mill.gap(place));
        }
        check.sentence("gap: IndexOutOfBoundsException if, gaps having an end, there is no such gap");
        for (int place : new int[] {15, 16, 29, 30, 10000, Integer.MAX_VALUE, 1 << 16}) {
            refused("place " + place, INDEX, mill -> mill.gap(place));
        }
        recipe = () -> Mills.withCoins(59, 60);
        refused("place 1711", INDEX, mill -> mill.gap(1711));
        recipe = () -> Mills.withCoins(1);
        refused("no gaps, place 0", INDEX, mill -> mill.gap(0));
    }

    private static void promise17And18Endless() {
        Recipe[] endless = {
            PointMill::new, () -> Mills.withCoins(2), () -> Mills.withCoins(60), () -> Mills.withCoins(6, 10),
            () -> Mills.withCoins(60, 45, 30), () -> Mills.withCoins(10, 20, 30, 40, 50, 60),
            () -> Mills.withCoins(1, 2, 1), () -> Mills.withCoins(59), () -> Mills.withCoins(7, 7)
        };
        for (Recipe each : endless) {
            recipe = each;
            check.sentence("gap: IndexOutOfBoundsException if place is below NONE, ahead of the gaps without an end");
            refused("endless, below NONE", INDEX, mill -> mill.gap(-2));
            check.sentence("gap: IllegalStateException as there are no coins, or a number above 1 divides them all");
            for (int place : new int[] {PointMill.NONE, 0, 1, 10000, Integer.MAX_VALUE}) {
                refused("endless, place " + place, STATE, mill -> mill.gap(place));
            }
            check.sentence("greatestGap: IllegalStateException if there are gaps without an end");
            refused("endless", STATE, mill -> mill.greatestGap());
        }
    }

    private static void promise19Tables() {
        recipe = Busy::mill;
        check.sentence("tables: IllegalArgumentException if one is out of range");
        for (int far : Mills.beyond(0, 60)) {
            for (int other : new int[] {0, 1, 60}) {
                refused("one " + far, ARGUMENT, mill -> mill.tables(far, other, other, other));
                refused("two " + far, ARGUMENT, mill -> mill.tables(other, far, other, other));
                refused("first " + far, ARGUMENT, mill -> mill.tables(other, other, far, other));
                refused("next " + far, ARGUMENT, mill -> mill.tables(other, other, other, far));
            }
        }
    }
}
