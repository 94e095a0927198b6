/** A mill that counts whole points: shapes in the plane, cones, coins and tables. */
public final class PointMill {
    public static final int NONE = -1;
    public static final int SWAP = 0, SLIDE = 1, FLIP = 2;

    private static final int MOST_SHAPES = 8;
    private static final int MOST_INEQUALITIES = 10;
    private static final int MOST_FACTOR = 60;
    private static final int MOST_LIMIT = 999;
    private static final int MOST_ADDED_FACTOR = 9;
    private static final int MOST_ADDED_LIMIT = 99;
    private static final int MOST_LETTER = 9;
    private static final int MOST_LETTER_FACTOR = 9;
    private static final int MOST_TIMES = 9;
    private static final int MOST_CUT_DIVISOR = 20;
    private static final int MOST_SLOPE = 99;
    private static final int MOST_VECTOR_PART = 20;
    private static final int MOST_COINS = 6;
    private static final int MOST_COIN = 60;
    private static final int MOST_SUM = 1000;
    private static final int MOST_TABLE_SUM = 60;

    private final Shape[] shapes;
    private int shapeCount;
    private final Region region;
    private final Cone cone;
    private final Coins coins;

    public PointMill() {
        shapes = new Shape[MOST_SHAPES];
        for (int i = 0; i < shapes.length; i++) {
            shapes[i] = new Shape();
        }
        region = new Region();
        cone = new Cone();
        coins = new Coins();
    }

    // ---- shapes

    public int shape() throws IllegalStateException {
        if (shapeCount >= MOST_SHAPES) {
            throw new IllegalStateException("there are 8 shapes");
        }
        shapeCount++;
        return shapeCount - 1;
    }

    public int add(int shape, int a, int b, int c, int e)
            throws IndexOutOfBoundsException, IllegalArgumentException, IllegalStateException {
        Shape wanted = shapeOf(shape);
        requireRange(a, -MOST_ADDED_FACTOR, MOST_ADDED_FACTOR);
        requireRange(b, -MOST_ADDED_FACTOR, MOST_ADDED_FACTOR);
        requireRange(c, -MOST_ADDED_LIMIT, MOST_ADDED_LIMIT);
        requireRange(e, -MOST_LETTER_FACTOR, MOST_LETTER_FACTOR);
        if (a == 0 && b == 0) {
            throw new IllegalArgumentException("a and b are both 0");
        }
        int number = wanted.append(a, b, c, e);
        if (number == NONE) {
            throw new IllegalStateException("there are 10 inequalities");
        }
        return number;
    }

    public int cut(int shape, int one, int some, int other, int more, int by)
            throws IndexOutOfBoundsException, IllegalArgumentException, IllegalStateException {
        Shape wanted = shapeOf(shape);
        requireInequality(wanted, one);
        requireInequality(wanted, other);
        requireRange(some, 0, MOST_TIMES);
        requireRange(more, 0, MOST_TIMES);
        requireRange(by, 1, MOST_CUT_DIVISOR);
        int number = wanted.appendCut(one, some, other, more, by);
        if (number == NONE) {
            throw new IllegalStateException("there is no such cut, or no room for it");
        }
        return number;
    }

    public int move(int shape, int move)
            throws IndexOutOfBoundsException, IllegalArgumentException, IllegalStateException {
        Shape wanted = shapeOf(shape);
        requireRange(move, SWAP, FLIP);
        if (move == SWAP) {
            wanted.swap();
        } else if (move == FLIP) {
            wanted.flip();
        } else if (!wanted.slide()) {
            throw new IllegalStateException("some b would be out of its range");
        }
        return wanted.size;
    }

    public int inequality(int shape, int inequality, int what)
            throws IndexOutOfBoundsException, IllegalArgumentException {
        Shape wanted = shapeOf(shape);
        requireInequality(wanted, inequality);
        requireRange(what, 0, 3);
        return wanted.part(inequality, what);
    }

    public boolean isPlace(int shape) throws IndexOutOfBoundsException {
        return shapeOf(shape).isClosed();
    }

    public long count(int shape, int letter)
            throws IndexOutOfBoundsException, IllegalArgumentException, IllegalStateException {
        takeWithLetter(shape, letter);
        return region.points();
    }

    public long countAnew(int shape, int letter)
            throws IndexOutOfBoundsException, IllegalArgumentException, IllegalStateException {
        takeWithLetter(shape, letter);
        region.makeRowsColumns();
        return region.points();
    }

    public long blown(int shape, int times, boolean inner)
            throws IndexOutOfBoundsException, IllegalArgumentException, IllegalStateException {
        Shape wanted = shapeOf(shape);
        requireRange(times, 0, MOST_TIMES);
        requirePlace(wanted);
        region.take(wanted, times, 0);
        if (inner) {
            region.leaveOutEdges();
        }
        return region.points();
    }

    public int best(int shape, int letter, int p, int q, int what)
            throws IndexOutOfBoundsException, IllegalArgumentException, IllegalStateException {
        Shape wanted = shapeOf(shape);
        requireRange(letter, 0, MOST_LETTER);
        requireRange(p, -MOST_SLOPE, MOST_SLOPE);
        requireRange(q, -MOST_SLOPE, MOST_SLOPE);
        requireRange(what, 0, 2);
        requirePlace(wanted);
        region.take(wanted, 1, letter);
        if (!region.findBest(p, q)) {
            throw new IllegalStateException("the shape has no points");
        }
        if (what == 0) {
            return p * region.bestX + q * region.bestY;
        }
        return what == 1 ? region.bestX : region.bestY;
    }

    // ---- cones

    public int index(int x, int y, int v, int w) throws IllegalArgumentException {
        makeCone(x, y, v, w);
        return cone.area;
    }

    public int generator(int x, int y, int v, int w, int place, boolean first)
            throws IndexOutOfBoundsException, IllegalArgumentException {
        requireNoneOrMore(place);
        makeCone(x, y, v, w);
        return generatorPart(cone.lookForGenerators(place), place, first);
    }

    public int generatorAnew(int x, int y, int v, int w, int place, boolean first)
            throws IndexOutOfBoundsException, IllegalArgumentException {
        requireNoneOrMore(place);
        makeCone(x, y, v, w);
        return generatorPart(cone.followGenerators(place), place, first);
    }

    // ---- coins, tables

    public int coin(int value) throws IllegalArgumentException, IllegalStateException {
        requireRange(value, 1, MOST_COIN);
        if (!coins.has(value) && coins.size() >= MOST_COINS) {
            throw new IllegalStateException("there are 6 coins");
        }
        coins.change(value);
        return coins.size();
    }

    public long ways(int sum) throws IllegalArgumentException {
        requireRange(sum, 0, MOST_SUM);
        return coins.waysToPay(sum);
    }

    public int gap(int place) throws IndexOutOfBoundsException, IllegalStateException {
        requireNoneOrMore(place);
        requireLastGap();
        int found = coins.lookForGaps(place);
        if (place == NONE) {
            return found;
        }
        if (place >= found) {
            throw new IndexOutOfBoundsException("there is no such gap");
        }
        return coins.wantedGap;
    }

    public int greatestGap() throws IllegalStateException {
        requireLastGap();
        return coins.lastGap();
    }

    public int tables(int one, int two, int first, int next) throws IllegalArgumentException {
        requireRange(one, 0, MOST_TABLE_SUM);
        requireRange(two, 0, MOST_TABLE_SUM);
        requireRange(first, 0, MOST_TABLE_SUM);
        requireRange(next, 0, MOST_TABLE_SUM);
        int last = one + two - first - next;
        if (last < 0) {
            return 0;
        }
        int found = 0;
        for (int corner = 0; corner <= Math.min(one, first); corner++) {
            // The corner and its neighbour settle the rest of the table.
            int least = Math.max(0, one - corner - last);
            int most = Math.min(next, one - corner);
            found += Math.max(0, most - least + 1);
        }
        return found;
    }

    // ---- what the calls ask of their arguments

    private Shape shapeOf(int number) {
        if (number < 0 || number >= shapeCount || number >= shapes.length) {
            throw new IndexOutOfBoundsException("there is no such shape");
        }
        return shapes[number];
    }

    private static void requireInequality(Shape shape, int number) {
        if (!shape.has(number)) {
            throw new IndexOutOfBoundsException("there is no such inequality");
        }
    }

    private static void requireRange(int value, int least, int most) {
        if (value < least || value > most) {
            throw new IllegalArgumentException("an argument is out of its range");
        }
    }

    private static void requirePlace(Shape shape) {
        if (!shape.isClosed()) {
            throw new IllegalStateException("the shape is no place");
        }
    }

    private void takeWithLetter(int number, int letter) {
        Shape wanted = shapeOf(number);
        requireRange(letter, 0, MOST_LETTER);
        requirePlace(wanted);
        region.take(wanted, 1, letter);
    }

    private static void requireNoneOrMore(int place) {
        if (place < NONE) {
            throw new IndexOutOfBoundsException("the place is below NONE");
        }
    }

    private void requireLastGap() {
        if (coins.commonDivisor() != 1) {
            throw new IllegalStateException("there are gaps without an end");
        }
    }

    private void makeCone(int x, int y, int v, int w) {
        requireRange(x, -MOST_VECTOR_PART, MOST_VECTOR_PART);
        requireRange(y, -MOST_VECTOR_PART, MOST_VECTOR_PART);
        requireRange(v, -MOST_VECTOR_PART, MOST_VECTOR_PART);
        requireRange(w, -MOST_VECTOR_PART, MOST_VECTOR_PART);
        if (!cone.span(x, y, v, w)) {
            throw new IllegalArgumentException("one vector is a multiple of the other one");
        }
    }

    private int generatorPart(int found, int place, boolean first) {
        if (place == NONE) {
            return found;
        }
        if (place >= found) {
            throw new IndexOutOfBoundsException("there is no such generator");
        }
        return first ? cone.wantedX : cone.wantedY;
    }

    private static int greatestDivisor(int one, int other) {
        int greater = Math.abs(one);
        int rest = Math.abs(other);
        // The rest halves at least every two steps.
        for (int step = 0; step < 64 && rest != 0; step++) {
            int next = greater % rest;
            greater = rest;
            rest = next;
        }
        return greater;
    }

    /** A row of inequalities: a times x and b times y are at most c and e times the letter. */
    private static final class Shape {
        private final int[] a = new int[MOST_INEQUALITIES];
        private final int[] b = new int[MOST_INEQUALITIES];
        private final int[] c = new int[MOST_INEQUALITIES];
        private final int[] e = new int[MOST_INEQUALITIES];
        private int size;

        boolean has(int number) {
            return number >= 0 && number < size;
        }

        /** Returns the number of the new inequality; NONE if there is no room for it. */
        int append(int newA, int newB, int newC, int newE) {
            if (size >= MOST_INEQUALITIES) {
                return NONE;
            }
            a[size] = newA;
            b[size] = newB;
            c[size] = newC;
            e[size] = newE;
            size++;
            return size - 1;
        }

        /** Returns the number of the new inequality; NONE if there can be none. */
        int appendCut(int one, int some, int other, int more, int by) {
            if (!has(one) || !has(other) || by < 1 || e[one] != 0 || e[other] != 0) {
                return NONE;
            }
            int sumA = some * a[one] + more * a[other];
            int sumB = some * b[one] + more * b[other];
            int newC = Math.floorDiv(some * c[one] + more * c[other], by);
            if (sumA % by != 0 || sumB % by != 0 || (sumA == 0 && sumB == 0)) {
                return NONE;
            }
            if (!isFactor(sumA / by) || !isFactor(sumB / by) || Math.abs(newC) > MOST_LIMIT) {
                return NONE;
            }
            return append(sumA / by, sumB / by, newC, 0);
        }

        int part(int number, int what) {
            if (!has(number)) {
                return NONE;
            }
            switch (what) {
                case 0:
                    return a[number];
                case 1:
                    return b[number];
                case 2:
                    return c[number];
                default:
                    return e[number];
            }
        }

        void swap() {
            for (int i = 0; i < size; i++) {
                int kept = a[i];
                a[i] = b[i];
                b[i] = kept;
            }
        }

        void flip() {
            for (int i = 0; i < size; i++) {
                a[i] = -a[i];
            }
        }

        /** Returns whether every b stays in its range; if not, nothing is changed. */
        boolean slide() {
            for (int i = 0; i < size; i++) {
                if (!isFactor(b[i] - a[i])) {
                    return false;
                }
            }
            for (int i = 0; i < size; i++) {
                b[i] -= a[i];
            }
            return true;
        }

        /**
         * Returns whether no step but that of 0 and 0 keeps to all inequalities. If steps keep to
         * them, then one along an edge does, so these alone are tried.
         */
        boolean isClosed() {
            for (int i = 0; i < size; i++) {
                if (isEndless(b[i], -a[i]) || isEndless(-b[i], a[i])) {
                    return false;
                }
            }
            return size > 0;
        }

        private boolean isEndless(int stepX, int stepY) {
            for (int i = 0; i < size; i++) {
                if (a[i] * stepX + b[i] * stepY > 0) {
                    return false;
                }
            }
            return true;
        }

        private static boolean isFactor(int value) {
            return value >= -MOST_FACTOR && value <= MOST_FACTOR;
        }
    }

    /** The whole points of a place with its letter and its size settled, column by column. */
    private static final class Region {
        /** Above each x and y of a point: 2 times 60 times 9 times 999, and the edges left out. */
        private static final int FAR = 2000000;

        private final int[] across = new int[MOST_INEQUALITIES];
        private final int[] upward = new int[MOST_INEQUALITIES];
        private final int[] limit = new int[MOST_INEQUALITIES];
        private int size;
        private int firstColumn;
        private int lastColumn;
        private int bottom;
        private int top;
        private int bestX;
        private int bestY;

        void take(Shape shape, int times, int letter) {
            size = shape.size;
            for (int i = 0; i < size; i++) {
                across[i] = shape.a[i];
                upward[i] = shape.b[i];
                limit[i] = times * shape.c[i] + letter * shape.e[i];
            }
        }

        void makeRowsColumns() {
            for (int i = 0; i < size; i++) {
                int kept = across[i];
                across[i] = upward[i];
                upward[i] = kept;
            }
        }

        /** Of whole points, those below a limit are those up to the number ahead of it. */
        void leaveOutEdges() {
            for (int i = 0; i < size; i++) {
                limit[i]--;
            }
        }

        long points() {
            long found = 0;
            findColumns();
            for (int column = firstColumn; column <= lastColumn; column++) {
                findEnds(column);
                found += Math.max(0, top - bottom + 1);
            }
            return found;
        }

        /** Returns whether there is a point; the best one is kept. */
        boolean findBest(int p, int q) {
            boolean found = false;
            findColumns();
            for (int column = firstColumn; column <= lastColumn; column++) {
                findEnds(column);
                int end = q > 0 ? top : bottom;
                if (bottom <= top && (!found || p * column + q * end > p * bestX + q * bestY)) {
                    found = true;
                    bestX = column;
                    bestY = end;
                }
            }
            return found;
        }

        /**
         * Two inequalities, one from above and one from below, tell together of columns alone. All
         * columns with points are kept, maybe others too; those of a place have ends.
         */
        private void findColumns() {
            firstColumn = -FAR;
            lastColumn = FAR;
            for (int i = 0; i < size; i++) {
                if (upward[i] == 0) {
                    narrow(across[i], limit[i]);
                }
                for (int j = 0; j < size; j++) {
                    if (upward[i] > 0 && upward[j] < 0) {
                        narrow(
                                across[j] * upward[i] - across[i] * upward[j],
                                limit[j] * upward[i] - limit[i] * upward[j]);
                    }
                }
            }
        }

        private void narrow(int factor, int most) {
            if (factor > 0) {
                lastColumn = Math.min(lastColumn, Math.floorDiv(most, factor));
            } else if (factor < 0) {
                firstColumn = Math.max(firstColumn, -Math.floorDiv(most, -factor));
            }
        }

        private void findEnds(int column) {
            bottom = -FAR;
            top = FAR;
            for (int i = 0; i < size; i++) {
                int rest = limit[i] - across[i] * column;
                int factor = upward[i];
                if (factor > 0) {
                    top = Math.min(top, Math.floorDiv(rest, factor));
                } else if (factor < 0) {
                    bottom = Math.max(bottom, -Math.floorDiv(rest, -factor));
                }
            }
        }
    }

    /**
     * A cone. Each vector in it has a distance from either side, a whole number from 0 to the area
     * for the sums with numbers of 0 to 1; the distances of a sum are the sums of the distances.
     */
    private static final class Cone {
        private static final int MOST_AREA = 2 * MOST_VECTOR_PART * MOST_VECTOR_PART;
        /** Above each distance. */
        private static final int FAR = 1000000;

        private final int[] leastFromLast = new int[MOST_AREA + 1];
        private int firstX;
        private int firstY;
        private int lastX;
        private int lastY;
        private int turn;
        private int area;
        private int wantedX;
        private int wantedY;

        /** Returns whether the vectors make a cone; if not, nothing is promised of this one. */
        boolean span(int x, int y, int v, int w) {
            int firstDivisor = greatestDivisor(x, y);
            int lastDivisor = greatestDivisor(v, w);
            if (firstDivisor == 0 || lastDivisor == 0) {
                return false;
            }
            firstX = x / firstDivisor;
            firstY = y / firstDivisor;
            lastX = v / lastDivisor;
            lastY = w / lastDivisor;
            int signed = firstX * lastY - firstY * lastX;
            turn = signed < 0 ? -1 : 1;
            area = Math.abs(signed);
            return area != 0;
        }

        /**
         * Returns how many generators there are, and keeps the one at that place. A vector is a
         * sum of others just if one of them has no greater distance from either side; so going
         * from the first side to the last one, the generators are those that come nearer to the
         * last one than all before.
         */
        int lookForGenerators(int place) {
            lookAtVectors();
            int nearest = FAR;
            int found = 0;
            for (int fromFirst = 0; fromFirst <= area && fromFirst <= MOST_AREA; fromFirst++) {
                int fromLast = leastFromLast[fromFirst];
                if (fromLast < nearest) {
                    nearest = fromLast;
                    if (found == place) {
                        keepByDistances(fromFirst, fromLast);
                    }
                    found++;
                }
            }
            return found;
        }

        private void lookAtVectors() {
            for (int i = 0; i <= MOST_AREA; i++) {
                leastFromLast[i] = FAR;
            }
            int mostX = Math.max(0, firstX) + Math.max(0, lastX);
            int mostY = Math.max(0, firstY) + Math.max(0, lastY);
            for (int x = Math.min(0, firstX) + Math.min(0, lastX); x <= mostX; x++) {
                for (int y = Math.min(0, firstY) + Math.min(0, lastY); y <= mostY; y++) {
                    lookAt(fromFirst(x, y), fromLast(x, y));
                }
            }
        }

        private void lookAt(int fromFirst, int fromLast) {
            boolean isNothing = fromFirst == 0 && fromLast == 0;
            boolean isBetween = fromFirst >= 0 && fromFirst <= area && fromLast >= 0 && fromLast <= area;
            if (!isNothing && isBetween && fromFirst <= MOST_AREA) {
                leastFromLast[fromFirst] = Math.min(leastFromLast[fromFirst], fromLast);
            }
        }

        private void keepByDistances(int fromFirst, int fromLast) {
            if (area != 0) {
                wantedX = (fromLast * firstX + fromFirst * lastX) / area;
                wantedY = (fromLast * firstY + fromFirst * lastY) / area;
            }
        }

        /**
         * Returns how many generators there are, and keeps the one at that place. Each is a
         * multiple of the one ahead of it, less the one ahead of that: the least multiple that
         * stays in the cone.
         */
        int followGenerators(int place) {
            int aheadX = firstX;
            int aheadY = firstY;
            int x = secondX();
            int y = secondY(x);
            // Vectors that differ by the first one are as far from its side: take the least inside.
            int tooMany = area == 0 ? 0 : Math.floorDiv(fromLast(x, y), area);
            x -= tooMany * firstX;
            y -= tooMany * firstY;
            wantedX = firstX;
            wantedY = firstY;
            // The distance from the last side falls by each step, and is below the area at first.
            for (int number = 1; number <= area; number++) {
                if (number == place) {
                    wantedX = x;
                    wantedY = y;
                }
                int distance = fromLast(x, y);
                if (distance <= 0) {
                    return number + 1;
                }
                int times = -Math.floorDiv(-fromLast(aheadX, aheadY), distance);
                int nextX = times * x - aheadX;
                int nextY = times * y - aheadY;
                aheadX = x;
                aheadY = y;
                x = nextX;
                y = nextY;
            }
            return area + 1;
        }

        /** Returns the x of some vector that makes a cone of the index 1 with the first one. */
        private int secondX() {
            if (firstX == 0) {
                return -turn * firstY;
            }
            int size = Math.abs(firstX);
            for (int x = 0; x < size; x++) {
                if ((turn + firstY * x) % size == 0) {
                    return x;
                }
            }
            return 0;
        }

        private int secondY(int x) {
            return firstX == 0 ? 0 : (turn + firstY * x) / firstX;
        }

        private int fromFirst(int x, int y) {
            return turn * (firstX * y - firstY * x);
        }

        private int fromLast(int x, int y) {
            return turn * (x * lastY - y * lastX);
        }
    }

    /** Coins, each a bit: that of 1 the lowest one. */
    private static final class Coins {
        /** With coins up to 60 that nothing divides all, the greatest gap is at most this. */
        private static final int MOST_GAP = MOST_COIN * MOST_COIN;
        /** Above each sum that is the least one of its rest. */
        private static final int FAR = 1000000;

        private final long[] waysTo = new long[MOST_SUM + 1];
        private final int[] leastSum = new int[MOST_COIN];
        private long values;
        private int wantedGap;

        int size() {
            return Long.bitCount(values);
        }

        boolean has(int value) {
            return value >= 1 && value <= MOST_COIN && ((values >> (value - 1)) & 1) == 1;
        }

        void change(int value) {
            values ^= 1L << (value - 1);
        }

        /** Returns the greatest number that divides all coins; 0 without coins. */
        int commonDivisor() {
            int divisor = 0;
            for (int value = 1; value <= MOST_COIN; value++) {
                if (has(value)) {
                    divisor = greatestDivisor(divisor, value);
                }
            }
            return divisor;
        }

        long waysToPay(int sum) {
            if (sum < 0 || sum > MOST_SUM) {
                return 0;
            }
            for (int i = 1; i <= sum; i++) {
                waysTo[i] = 0;
            }
            waysTo[0] = 1;
            for (int value = 1; value <= MOST_COIN; value++) {
                if (has(value)) {
                    for (int i = value; i <= sum; i++) {
                        waysTo[i] += waysTo[i - value];
                    }
                }
            }
            return waysTo[sum];
        }

        /** Returns how many gaps there are, if they have an end, and keeps the one at that place. */
        int lookForGaps(int place) {
            int found = 0;
            // The lowest bit tells whether the sum ahead can be paid, the next one of that ahead.
            long ahead = 1;
            for (int sum = 1; sum <= MOST_GAP; sum++) {
                long paid = 1;
                if ((ahead & values) == 0) {
                    paid = 0;
                    if (found == place) {
                        wantedGap = sum;
                    }
                    found++;
                }
                ahead = (ahead << 1) | paid;
            }
            return found;
        }

        /** Returns the greatest gap, if gaps have an end; with a coin of 1 that is NONE. */
        int lastGap() {
            int least = leastCoin();
            findLeastSums(least);
            int greatest = 0;
            for (int rest = 0; rest < least; rest++) {
                greatest = Math.max(greatest, leastSum[rest]);
            }
            return greatest - least;
        }

        /** Returns the least coin; 1 without coins. */
        private int leastCoin() {
            for (int value = 1; value <= MOST_COIN; value++) {
                if (has(value)) {
                    return value;
                }
            }
            return 1;
        }

        /** A least sum takes less coins, beside the least one, than there are rests. */
        private void findLeastSums(int least) {
            leastSum[0] = 0;
            for (int rest = 1; rest < least; rest++) {
                leastSum[rest] = FAR;
            }
            boolean isChanged = true;
            for (int round = 0; round < least && isChanged; round++) {
                isChanged = false;
                for (int value = least + 1; value <= MOST_COIN; value++) {
                    if (has(value) && payOneMore(value, least)) {
                        isChanged = true;
                    }
                }
            }
        }

        /** Returns whether a least sum became less by one more coin of that value. */
        private boolean payOneMore(int value, int least) {
            boolean isChanged = false;
            for (int rest = 0; rest < least; rest++) {
                int sum = leastSum[rest] + value;
                int newRest = Math.floorMod(rest + value, least);
                if (sum < leastSum[newRest]) {
                    leastSum[newRest] = sum;
                    isChanged = true;
                }
            }
            return isChanged;
        }
    }
}
