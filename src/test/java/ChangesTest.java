import java.util.Arrays;
import java.util.List;

/**
 * What an answered call leaves. "Nothing is promised beyond the answers and state changes described": one that tells
 * changes nothing, and one that changes something leaves all else as it was. Refused calls are in RefusalsTest.
 */
final class ChangesTest {
    private static final Check check = new Check();

    public static void main(String[] args) {
        callsThatTellChangeNothing();
        answersLeaveNothingForTheNext();
        promise2Shape();
        promise3Add();
        promise4Cut();
        promise5Move();
        promise15Coin();
        check.end();
    }

    /** Each of them has an answer on a busy mill. */
    private static Mills.Ask[] tellingCalls() {
        return new Mills.Ask[] {
            mill -> mill.inequality(Busy.TRIANGLE, 2, 2),
            mill -> Mills.number(mill.isPlace(Busy.TRIANGLE)),
            mill -> Mills.number(mill.isPlace(Busy.QUARTER)),
            mill -> mill.count(Busy.TRIANGLE, 9),
            mill -> mill.count(Busy.NO_POINTS, 0),
            mill -> mill.countAnew(Busy.TRIANGLE, 3),
            mill -> mill.countAnew(Busy.FULL, 0),
            mill -> mill.blown(Busy.TRIANGLE, 9, false),
            mill -> mill.blown(Busy.FULL, 2, true),
            mill -> mill.blown(Busy.NO_POINTS, 0, false),
            mill -> mill.best(Busy.TRIANGLE, 3, -5, 7, 0),
            mill -> mill.best(Busy.FULL, 0, 99, 1, 2),
            mill -> mill.index(20, 19, -19, 20),
            mill -> mill.generator(1, 0, 3, 7, PointMill.NONE, true),
            mill -> mill.generator(1, -20, 1, 20, 40, false),
            mill -> mill.generatorAnew(3, 7, 1, 0, 1, false),
            mill -> mill.generatorAnew(20, 19, 20, 17, 7, true),
            mill -> mill.ways(0),
            mill -> mill.ways(1000),
            mill -> mill.gap(PointMill.NONE),
            mill -> mill.gap(3),
            mill -> mill.greatestGap(),
            mill -> mill.tables(60, 60, 40, 40)
        };
    }

    private static void callsThatTellChangeNothing() {
        check.sentence("Nothing is promised beyond the state changes described: a call that tells changes nothing");
        Mills.Ask[] calls = tellingCalls();
        for (int i = 0; i < calls.length; i++) {
            leaves("telling call " + i, calls[i]);
        }
    }

    private static void answersLeaveNothingForTheNext() {
        check.sentence("Nothing is promised beyond the answers described: none depends on what was told ahead of it");
        Mills.Ask[] calls = tellingCalls();
        for (int i = 0; i < calls.length; i++) {
            long due = calls[i].of(Busy.mill());
            for (int ahead = 0; ahead < calls.length; ahead++) {
                PointMill mill = Busy.mill();
                calls[ahead].of(mill);
                Mills.Ask asked = calls[i];
                check.equal("telling call " + i + " after " + ahead, due, () -> asked.of(mill));
            }
        }
    }

    /** Of all that a mill tells, the parts of those names are changed by the call, and no other ones. */
    private static void leaves(String text, Mills.Ask ask, String... changed) {
        PointMill mill = Busy.mill();
        ask.of(mill);
        String[] due = State.of(Busy.mill()).split("\n");
        String[] got = State.of(mill).split("\n");
        List<String> names = Arrays.asList(changed);
        check.equal(text + ", parts", due.length, () -> got.length);
        for (int i = 0; i < Math.min(due.length, got.length); i++) {
            String name = due[i].substring(0, due[i].indexOf(':') + 1);
            if (names.contains(name)) {
                check.isTrue(text + " changes " + name, !due[i].equals(got[i]));
            } else {
                check.same(text + " leaves " + name, due[i], got[i]);
            }
        }
    }

    /** The inequalities that a shape had ahead of the call, part by part. */
    private static void keepsInequalities(String text, int shape, Mills.Ask ask) {
        PointMill like = Busy.mill();
        PointMill mill = Busy.mill();
        ask.of(mill);
        for (int i = 0; i < Busy.SIZES[shape]; i++) {
            for (int what = 0; what < 4; what++) {
                int number = i;
                int part = what;
                long due = like.inequality(shape, i, what);
                check.equal(text + " keeps " + i, due, () -> mill.inequality(shape, number, part));
            }
        }
    }

    private static void promise2Shape() {
        check.sentence("shape: Makes a shape without inequalities, and changes nothing else");
        leaves("shape", mill -> mill.shape(), "shape 5:", "added to shape 5:", "made:");
    }

    private static void promise3Add() {
        check.sentence("add: Adds an inequality, and changes nothing else");
        Mills.Ask closing = mill -> mill.add(Busy.QUARTER, -1, -1, 5, 0);
        leaves("add to a quarter", closing, "shape 3:", "added to shape 3:");
        keepsInequalities("add to a quarter", Busy.QUARTER, closing);
        Mills.Ask idle = mill -> mill.add(Busy.TRIANGLE, 1, 1, 99, 0);
        leaves("add to a triangle", idle, "shape 0:", "added to shape 0:");
        keepsInequalities("add to a triangle", Busy.TRIANGLE, idle);
        leaves("add to nothing", mill -> mill.add(Busy.NOTHING, 1, 1, 1, 1), "shape 2:", "added to shape 2:");
    }

    private static void promise4Cut() {
        check.sentence("cut: It is a new inequality: those that it is made of stay");
        Mills.Ask both = mill -> mill.cut(Busy.NO_POINTS, 0, 3, 2, 9, 3);
        leaves("a cut of two", both, "shape 4:", "added to shape 4:");
        keepsInequalities("a cut of two", Busy.NO_POINTS, both);
        Mills.Ask twice = mill -> mill.cut(Busy.TRIANGLE, 1, 4, 1, 4, 8);
        leaves("a cut of one", twice, "shape 0:", "added to shape 0:");
        keepsInequalities("a cut of one", Busy.TRIANGLE, twice);
    }

    private static void promise5Move() {
        check.sentence("move: A move changes all inequalities of a shape, and nothing else");
        for (int asked : new int[] {PointMill.SWAP, PointMill.SLIDE, PointMill.FLIP}) {
            leaves("move " + asked + " of a triangle", mill -> mill.move(Busy.TRIANGLE, asked), "shape 0:");
            leaves("move " + asked + " of a full shape", mill -> mill.move(Busy.FULL, asked), "shape 1:");
            leaves("move " + asked + " of nothing", mill -> mill.move(Busy.NOTHING, asked));
        }
        check.sentence("move: SWAP twice and FLIP twice lead back");
        leaves("SWAP twice", mill -> mill.move(Busy.FULL, PointMill.SWAP) + mill.move(Busy.FULL, PointMill.SWAP));
        leaves("FLIP twice", mill -> mill.move(Busy.FULL, PointMill.FLIP) + mill.move(Busy.FULL, PointMill.FLIP));
    }

    private static void promise15Coin() {
        check.sentence("coin: Adds a coin, or takes it away, and changes nothing else");
        leaves("a coin goes", mill -> mill.coin(10), "ways:", "gaps:", "coin 1, twice:");
        leaves("a coin goes and comes", mill -> mill.coin(59) + mill.coin(59));
        leaves("one goes, another one comes", mill -> mill.coin(60) + mill.coin(8), "ways:", "gaps:");
    }
}
