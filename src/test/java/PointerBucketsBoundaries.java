import java.util.ArrayList;
import java.util.List;
import java.util.function.ToIntFunction;

/**
 * One test for each boundary that a sentence of the document names: too small, too large, empty,
 * full, going round, refused. The answers due are written out, not worked out by a second program.
 */
public final class PointerBucketsBoundaries {
    private static final int BAD = PointerBuckets.BAD;
    private static final int NEW = PointerBuckets.NEW;
    private static final int OLD = PointerBuckets.OLD;
    private static final int NO_ROOM = PointerBuckets.NO_ROOM;
    private static final int LEAST = Integer.MIN_VALUE;
    private static final int MOST = Integer.MAX_VALUE;

    private static String test = "";
    private static final List<String> FAILED = new ArrayList<>();

    public static void main(String[] args) {
        promise1();
        terms();
        promise2();
        promises3And4();
        promise5();
        promises6To10();
        promises11To14();
        for (String name : FAILED) {
            System.out.println("FAILED: " + name);
        }
        System.out.println(FAILED.isEmpty() ? "every boundary holds" : FAILED.size() + " boundaries do not hold");
        if (!FAILED.isEmpty()) {
            System.exit(1);
        }
    }

    private static void promise1() {
        test("1: BASE too small", PointerBucketsBoundaries::baseTooSmall);
        test("1: BASE too large", PointerBucketsBoundaries::baseTooLarge);
        test("1: BASE within", PointerBucketsBoundaries::baseWithin);
        test("1: CAP too small", PointerBucketsBoundaries::capTooSmall);
        test("1: CAP too large", PointerBucketsBoundaries::capTooLarge);
        test("1: CAP within", PointerBucketsBoundaries::capWithin);
        test("1: PAGES too few", PointerBucketsBoundaries::pagesTooFew);
        test("1: PAGES too many", PointerBucketsBoundaries::pagesTooMany);
        test("1: PAGES within", PointerBucketsBoundaries::pagesWithin);
        test("1: buckets too few", PointerBucketsBoundaries::bucketsTooFew);
        test("1: buckets fewer than a BASE that was too large", PointerBucketsBoundaries::bucketsBelowBaseBroughtWithin);
        test("1: buckets too many", PointerBucketsBoundaries::bucketsTooMany);
        test("1: buckets within", PointerBucketsBoundaries::bucketsWithin);
    }

    private static void terms() {
        test("terms: without its sign bit", PointerBucketsBoundaries::withoutSignBit);
        test("terms: a bucket below POINTER", PointerBucketsBoundaries::belowPointer);
        test("terms: as few pages as they need", PointerBucketsBoundaries::asFewPagesAsNeeded);
        test("terms: one page at least", PointerBucketsBoundaries::onePageAtLeast);
        test("terms: PARTING, the pointer goes round", PointerBucketsBoundaries::partingGoesRound);
        test("terms: PARTING, BASE 1 goes round at once", PointerBucketsBoundaries::partingOfBaseOneGoesRound);
        test("terms: PARTING, both in their order", PointerBucketsBoundaries::partingKeepsOrder);
        test("terms: PARTING, all keys stay or all go", PointerBucketsBoundaries::partingOfAllOrNone);
        test("terms: JOINING from 0", PointerBucketsBoundaries::joiningFromZero);
        test("terms: JOINING not from 0", PointerBucketsBoundaries::joiningNotFromZero);
        test("terms: JOINING, an empty bucket", PointerBucketsBoundaries::joiningOfEmpty);
    }

    private static void promise2() {
        test("2: OLD stands where it stood", PointerBucketsBoundaries::oldStandsWhereItStood);
        test("2: OLD parts nothing", PointerBucketsBoundaries::oldPartsNothing);
        test("2: OLD where there is no room", PointerBucketsBoundaries::oldWithoutRoom);
        test("2: behind the others of its bucket", PointerBucketsBoundaries::newBehindTheOthers);
        test("2: 3 CAP / 4, one bucket", PointerBucketsBoundaries::crowdedOneBucket);
        test("2: 3 CAP / 4, two buckets", PointerBucketsBoundaries::crowdedTwoBuckets);
        test("2: one parting, not two", PointerBucketsBoundaries::onePartingOnly);
        test("2: the last bucket allowed, none more", PointerBucketsBoundaries::lastBucketAllowed);
        test("2: the last page", PointerBucketsBoundaries::lastPage);
        test("2: NO_ROOM for the key", PointerBucketsBoundaries::noRoomForTheKey);
        test("2: NO_ROOM for the parting alone", PointerBucketsBoundaries::noRoomForTheParting);
        test("2: NO_ROOM for key and parting together", PointerBucketsBoundaries::noRoomForBoth);
        test("2: NO_ROOM where the parting goes round", PointerBucketsBoundaries::noRoomWhereItGoesRound);
        test("2: NO_ROOM and then room again", PointerBucketsBoundaries::roomAgain);
        test("2: a parting that needs no page more", PointerBucketsBoundaries::partingWithoutPage);
        test("2: no page free, no parting allowed", PointerBucketsBoundaries::noPageNoParting);
    }

    private static void promises3And4() {
        test("3: get on an empty object", PointerBucketsBoundaries::getOnEmpty);
        test("3: get of a key not there", PointerBucketsBoundaries::getNotThere);
        test("4: has on an empty object", PointerBucketsBoundaries::hasOnEmpty);
        test("4: has of a key not there", PointerBucketsBoundaries::hasNotThere);
    }

    private static void promise5() {
        test("5: the last comes to its place", PointerBucketsBoundaries::lastComesToThePlace);
        test("5: the key is itself the last", PointerBucketsBoundaries::removeTheLast);
        test("5: the key is the only one", PointerBucketsBoundaries::removeTheOnlyOne);
        test("5: the place, then the parting", PointerBucketsBoundaries::rowBehindRemoveIsParted);
        test("5: CAP / 4, two buckets", PointerBucketsBoundaries::sparseTwoBuckets);
        test("5: CAP / 4, three buckets", PointerBucketsBoundaries::sparseThreeBuckets);
        test("5: one joining, not two", PointerBucketsBoundaries::oneJoiningOnly);
        test("5: one more than BASE buckets", PointerBucketsBoundaries::oneMoreThanBase);
        test("5: BASE buckets", PointerBucketsBoundaries::baseBuckets);
        test("5: false on an empty object", PointerBucketsBoundaries::removeOnEmpty);
        test("5: false, and nothing is changed", PointerBucketsBoundaries::removeNotThere);
    }

    private static void promises6To10() {
        test("6: size", PointerBucketsBoundaries::sizes);
        test("7: buckets", PointerBucketsBoundaries::bucketCounts);
        test("8: level", PointerBucketsBoundaries::levels);
        test("9: pointer", PointerBucketsBoundaries::pointers);
        test("10: bucketOf at first", PointerBucketsBoundaries::bucketOfAtFirst);
        test("10: bucketOf behind partings and joinings", PointerBucketsBoundaries::bucketOfBehindRound);
        test("10: bucketOf of a key not there", PointerBucketsBoundaries::bucketOfNotThere);
        test("10: bucketOf of a negative key", PointerBucketsBoundaries::bucketOfNegative);
    }

    private static void promises11To14() {
        test("11: pages of a bucket below 0", PointerBucketsBoundaries::pagesBelowZero);
        test("11: pages of a bucket too large", PointerBucketsBoundaries::pagesTooLarge);
        test("11: pages of an empty bucket", PointerBucketsBoundaries::pagesOfEmpty);
        test("12: free, none", PointerBucketsBoundaries::freeNone);
        test("12: free, all but BASE", PointerBucketsBoundaries::freeAllButBase);
        test("13: key of a bucket that is none", PointerBucketsBoundaries::keyOfNoBucket);
        test("13: key at a place below 0", PointerBucketsBoundaries::keyBelowZero);
        test("13: key behind the row", PointerBucketsBoundaries::keyBehindRow);
        test("13: a key that is itself BAD", PointerBucketsBoundaries::keyThatIsBad);
        test("14: clear behind partings", PointerBucketsBoundaries::clearBehindPartings);
        test("14: clear where all is full", PointerBucketsBoundaries::clearOfFull);
        test("14: clear of a new object", PointerBucketsBoundaries::clearOfNew);
    }

    // What the tests are made of.

    private static void test(String name, Runnable body) {
        test = name;
        try {
            body.run();
        } catch (Throwable e) {
            wrong("threw " + e);
        }
    }

    private static void wrong(String what) {
        System.out.println(test + ": " + what);
        if (!FAILED.contains(test)) {
            FAILED.add(test);
        }
    }

    private static void due(String call, Object got, Object want) {
        if (!got.equals(want)) {
            wrong(call + " answered " + got + ", due is " + want);
        }
    }

    private static int valueFor(int key) {
        return 3 * key + 7;
    }

    private static void put(PointerBuckets x, int answer, int... keys) {
        for (int key : keys) {
            due("put(" + key + ")", x.put(key, valueFor(key)), answer);
        }
    }

    private static void putFromTo(PointerBuckets x, int answer, int from, int to) {
        for (int key = from; key <= to; key++) {
            put(x, answer, key);
        }
    }

    private static void remove(PointerBuckets x, int... keys) {
        for (int key : keys) {
            due("remove(" + key + ")", x.remove(key), true);
        }
    }

    /** Level, pointer, free pages, and the rows; a key -1 would end its row here. */
    private static String state(PointerBuckets x) {
        StringBuilder text = new StringBuilder();
        text.append(x.level()).append(' ').append(x.pointer()).append(' ').append(x.free()).append(':');
        int buckets = x.buckets();
        for (int bucket = 0; bucket < buckets; bucket++) {
            text.append(" (");
            for (int k = 0; k < 512 && x.key(bucket, k) != BAD; k++) {
                text.append(k == 0 ? "" : " ").append(x.key(bucket, k));
            }
            text.append(')');
        }
        return text.toString();
    }

    private static void dueState(PointerBuckets x, String want) {
        due("the state", state(x), want);
    }

    private static void dueValues(PointerBuckets x, int... keys) {
        due("size()", x.size(), keys.length);
        for (int key : keys) {
            due("get(" + key + ")", x.get(key), valueFor(key));
        }
    }

    private static void dueShape(PointerBuckets x, int level, int pointer, int buckets) {
        due("level()", x.level(), level);
        due("pointer()", x.pointer(), pointer);
        due("buckets()", x.buckets(), buckets);
    }

    // Promise 1: a new object.

    private static void baseTooSmall() {
        for (int base : new int[] {0, -1, -8, LEAST}) {
            dueState(new PointerBuckets(base, 4, 20, 10), "0 0 19: ()");
        }
    }

    private static void baseTooLarge() {
        for (int base : new int[] {9, 10, 200, MOST}) {
            dueState(new PointerBuckets(base, 4, 20, 10), "0 0 12: () () () () () () () ()");
        }
    }

    private static void baseWithin() {
        for (int base = 1; base <= 8; base++) {
            due("buckets() of BASE " + base, new PointerBuckets(base, 4, 20, 10).buckets(), base);
        }
    }

    private static void dueCap(int given, int cap) {
        PointerBuckets x = new PointerBuckets(1, given, 20, 1);
        putFromTo(x, NEW, 1, cap);
        due("pages(0), CAP " + given + ", a full page", x.pages(0), 1);
        put(x, NEW, cap + 1);
        due("pages(0), CAP " + given + ", one key more", x.pages(0), 2);
    }

    private static void capTooSmall() {
        for (int cap : new int[] {0, -1, -8, LEAST}) {
            dueCap(cap, 1);
        }
    }

    private static void capTooLarge() {
        for (int cap : new int[] {9, 10, 300, MOST}) {
            dueCap(cap, 8);
        }
    }

    private static void capWithin() {
        for (int cap = 1; cap <= 8; cap++) {
            dueCap(cap, cap);
        }
    }

    private static void duePages(int given, int pages) {
        PointerBuckets x = new PointerBuckets(1, 1, given, 1);
        due("free(), PAGES " + given, x.free(), pages - 1);
        putFromTo(x, NEW, 1, pages);
        put(x, NO_ROOM, pages + 1);
        due("free(), PAGES " + given + ", all in use", x.free(), 0);
    }

    private static void pagesTooFew() {
        for (int pages : new int[] {7, 1, 0, -1, LEAST}) {
            duePages(pages, 8);
        }
    }

    private static void pagesTooMany() {
        for (int pages : new int[] {301, 302, 2400, MOST}) {
            duePages(pages, 300);
        }
    }

    private static void pagesWithin() {
        for (int pages : new int[] {8, 9, 150, 299, 300}) {
            duePages(pages, pages);
        }
    }

    /** With CAP 1, as many keys as buckets always ask for a parting, so only the limit can stop it. */
    private static void dueMostBuckets(int base, int given, int most) {
        PointerBuckets x = new PointerBuckets(base, 1, 300, given);
        putFromTo(x, NEW, 0, most + 8);
        due("buckets(), at most " + given + " given", x.buckets(), most);
    }

    private static void bucketsTooFew() {
        for (int buckets : new int[] {4, 1, 0, -1, LEAST}) {
            dueMostBuckets(5, buckets, 5);
        }
        dueMostBuckets(1, 0, 1);
    }

    private static void bucketsBelowBaseBroughtWithin() {
        dueMostBuckets(100, 50, 50);
        dueMostBuckets(100, 9, 9);
        dueMostBuckets(100, 7, 8);
        dueMostBuckets(-100, -50, 1);
        dueMostBuckets(-100, 2, 2);
    }

    private static void bucketsTooMany() {
        for (int buckets : new int[] {201, 202, 300, MOST}) {
            dueMostBuckets(1, buckets, 200);
            dueMostBuckets(8, buckets, 200);
        }
    }

    private static void bucketsWithin() {
        dueMostBuckets(5, 5, 5);
        dueMostBuckets(5, 6, 6);
        dueMostBuckets(1, 1, 1);
        dueMostBuckets(1, 2, 2);
        dueMostBuckets(3, 199, 199);
        dueMostBuckets(3, 200, 200);
    }

    // Terms.

    private static void withoutSignBit() {
        PointerBuckets x = new PointerBuckets(5, 8, 20, 5);
        due("bucketOf(-1), h is 2147483647", x.bucketOf(-1), 2);
        due("bucketOf(2147483647)", x.bucketOf(MOST), 2);
        due("bucketOf(-2147483648), h is 0", x.bucketOf(LEAST), 0);
        due("bucketOf(-2147483647), h is 1", x.bucketOf(LEAST + 1), 1);
        due("bucketOf(-3), h is 2147483645", x.bucketOf(-3), 0);
        put(x, NEW, -3, 5, LEAST, 0, 3);
        dueState(x, "0 0 15: (-3 5 -2147483648 0) () () (3) ()");
        dueValues(x, -3, 5, LEAST, 0, 3);
        remove(x, 0);
        due("has(-2147483648), another key than 0", x.has(LEAST), true);
    }

    private static void belowPointer() {
        PointerBuckets x = new PointerBuckets(4, 1, 40, 6);
        put(x, NEW, 0, 1, 2, 3, 4);
        dueShape(x, 0, 2, 6);
        int[] due = {0, 1, 2, 3, 4, 5, 2, 3, 0, 1, 2, 3, 4, 5, 2, 3};
        for (int key = 0; key < due.length; key++) {
            due("bucketOf(" + key + ")", x.bucketOf(key), due[key]);
        }
        put(x, NEW, 6, 5, 7, 9);
        dueState(x, "0 2 31: (0) (1 9) (2 6) (3 7) (4) (5)");
    }

    private static void asFewPagesAsNeeded() {
        int[] due = {1, 1, 1, 2, 2, 2, 3, 3, 3, 4};
        PointerBuckets x = new PointerBuckets(1, 3, 20, 1);
        for (int n = 1; n <= due.length; n++) {
            put(x, NEW, n);
            due("pages(0) of " + n + " keys", x.pages(0), due[n - 1]);
            due("free() with " + n + " keys", x.free(), 20 - due[n - 1]);
        }
        for (int n = due.length; n > 1; n--) {
            remove(x, n);
            due("pages(0) of " + (n - 1) + " keys again", x.pages(0), due[n - 2]);
            due("free() with " + (n - 1) + " keys again", x.free(), 20 - due[n - 2]);
        }
    }

    private static void onePageAtLeast() {
        PointerBuckets x = new PointerBuckets(2, 3, 20, 2);
        due("pages(0), never used", x.pages(0), 1);
        put(x, NEW, 4);
        remove(x, 4);
        due("pages(0), empty again", x.pages(0), 1);
        due("free()", x.free(), 18);
    }

    /** Each pair is level and pointer behind one parting more. */
    private static final int[][] ROUNDS_OF_THREE = {
        {0, 0}, {0, 1}, {0, 2}, {1, 0}, {1, 1}, {1, 2}, {1, 3}, {1, 4}, {1, 5}, {2, 0}, {2, 1}
    };

    private static void partingGoesRound() {
        PointerBuckets x = new PointerBuckets(3, 1, 100, 13);
        int key = 0;
        for (int i = 0; i < ROUNDS_OF_THREE.length; i++) {
            for (int puts = 0; puts < 6 && x.buckets() < 3 + i; puts++) {
                put(x, NEW, key++);
            }
            dueShape(x, ROUNDS_OF_THREE[i][0], ROUNDS_OF_THREE[i][1], 3 + i);
        }
    }

    private static void partingOfBaseOneGoesRound() {
        PointerBuckets x = new PointerBuckets(1, 1, 20, 20);
        dueState(x, "0 0 19: ()");
        put(x, NEW, 0);
        dueState(x, "1 0 18: (0) ()");
        put(x, NEW, 1);
        dueState(x, "1 1 17: (0) (1) ()");
        put(x, NEW, 2);
        dueState(x, "2 0 16: (0) (1) (2) ()");
        put(x, NEW, 3);
        dueState(x, "2 1 15: (0) (1) (2) (3) ()");
    }

    private static void partingKeepsOrder() {
        PointerBuckets x = new PointerBuckets(2, 4, 20, 20);
        put(x, NEW, 14, 4, 2, 8, 6, 1);
        dueState(x, "0 0 17: (14 4 2 8 6) (1)");
        put(x, NEW, 12);
        dueState(x, "0 1 17: (4 8 12) (1) (14 2 6)");
        dueValues(x, 4, 8, 12, 1, 14, 2, 6);
        put(x, NEW, 7, 5);
        dueState(x, "0 1 17: (4 8 12) (1 7 5) (14 2 6)");
        put(x, NEW, 3);
        dueState(x, "1 0 16: (4 8 12) (1 5) (14 2 6) (7 3)");
        dueValues(x, 4, 8, 12, 1, 5, 14, 2, 6, 7, 3);
    }

    private static void partingOfAllOrNone() {
        PointerBuckets stay = new PointerBuckets(1, 4, 20, 2);
        put(stay, NEW, 6, 2, 8, 4);
        dueState(stay, "1 0 18: (6 2 8 4) ()");
        PointerBuckets go = new PointerBuckets(1, 4, 20, 2);
        put(go, NEW, 7, 3, 9, 5);
        dueState(go, "1 0 18: () (7 3 9 5)");
        dueValues(go, 7, 3, 9, 5);
    }

    private static void joiningFromZero() {
        PointerBuckets x = new PointerBuckets(1, 4, 20, 20);
        put(x, NEW, 3, 7, 11, 1, 5, 9, 0, 4, 2, 6);
        dueState(x, "2 0 16: (0 4) (1 5 9) (2 6) (3 7 11)");
        remove(x, 0, 4, 2, 6, 11, 9);
        dueState(x, "2 0 16: () (1 5) () (3 7)");
        remove(x, 5);
        dueState(x, "1 1 17: () (1 3 7) ()");
        dueValues(x, 1, 3, 7);
        remove(x, 3);
        dueState(x, "1 0 18: () (1 7)");
        remove(x, 1);
        dueState(x, "0 0 19: (7)");
        dueValues(x, 7);
    }

    private static void joiningNotFromZero() {
        PointerBuckets x = new PointerBuckets(2, 4, 20, 3);
        put(x, NEW, 6, 2, 4, 1, 0, 3, 5);
        dueState(x, "0 1 17: (4 0) (1 3 5) (6 2)");
        remove(x, 1, 3, 5, 0);
        dueState(x, "0 1 17: (4) () (6 2)");
        remove(x, 6);
        dueState(x, "0 0 18: (4 2) ()");
        dueValues(x, 4, 2);
    }

    private static void joiningOfEmpty() {
        PointerBuckets lastEmpty = new PointerBuckets(1, 4, 20, 2);
        put(lastEmpty, NEW, 6, 2, 8, 4);
        remove(lastEmpty, 6, 2, 8);
        dueState(lastEmpty, "0 0 19: (4)");
        PointerBuckets firstEmpty = new PointerBuckets(1, 4, 20, 2);
        put(firstEmpty, NEW, 7, 3, 9, 5);
        remove(firstEmpty, 7, 3, 9);
        dueState(firstEmpty, "0 0 19: (5)");
        PointerBuckets bothEmpty = new PointerBuckets(1, 1, 20, 2);
        put(bothEmpty, NEW, 5);
        remove(bothEmpty, 5);
        dueState(bothEmpty, "0 0 19: ()");
    }

    // Promise 2: put.

    private static void oldStandsWhereItStood() {
        PointerBuckets x = new PointerBuckets(2, 3, 20, 2);
        put(x, NEW, 8, 1, 2, 6, 4, 3);
        for (int key : new int[] {8, 6, 4, 1}) {
            due("put(" + key + ") again", x.put(key, -key), OLD);
            dueState(x, "0 0 17: (8 2 6 4) (1 3)");
            due("get(" + key + "), the new value", x.get(key), -key);
        }
        due("get(2), not put again", x.get(2), valueFor(2));
        due("size()", x.size(), 6);
        due("put with the value it has", x.put(2, valueFor(2)), OLD);
        due("put with value 0", x.put(2, 0), OLD);
        due("has, with value 0", x.has(2), true);
    }

    private static void oldPartsNothing() {
        PointerBuckets x = new PointerBuckets(1, 1, 20, 20);
        put(x, NEW, 0, 1, 2, 3, 4);
        // Five keys in six buckets are still above 3 CAP / 4 for each.
        dueShape(x, 2, 2, 6);
        put(x, OLD, 0, 1, 2, 3, 4);
        dueShape(x, 2, 2, 6);
        dueValues(x, 0, 1, 2, 3, 4);
    }

    private static void oldWithoutRoom() {
        PointerBuckets x = new PointerBuckets(1, 1, 8, 1);
        putFromTo(x, NEW, 1, 8);
        put(x, NO_ROOM, 9);
        due("put of an old key", x.put(8, 5), OLD);
        due("get(8)", x.get(8), 5);
        dueState(x, "0 0 0: (1 2 3 4 5 6 7 8)");
    }

    private static void newBehindTheOthers() {
        PointerBuckets x = new PointerBuckets(2, 2, 20, 2);
        put(x, NEW, 9, 4, -5, 2, 7, 0);
        dueState(x, "0 0 16: (4 2 0) (9 -5 7)");
        remove(x, 9);
        put(x, NEW, 9);
        dueState(x, "0 0 16: (4 2 0) (7 -5 9)");
    }

    /** For CAP 1 to 8: with so many keys there is the first parting, of one bucket. */
    private static final int[] CROWD_ONE = {1, 2, 3, 4, 4, 5, 6, 7};
    /** For CAP 1 to 8: with so many keys there is the parting of two buckets. */
    private static final int[] CROWD_TWO = {2, 4, 5, 7, 8, 10, 11, 13};

    private static void crowdedOneBucket() {
        for (int cap = 1; cap <= 8; cap++) {
            PointerBuckets x = new PointerBuckets(1, cap, 20, 20);
            putFromTo(x, NEW, 1, CROWD_ONE[cap - 1] - 1);
            due("buckets() just not above, CAP " + cap, x.buckets(), 1);
            put(x, NEW, CROWD_ONE[cap - 1]);
            due("buckets() just above, CAP " + cap, x.buckets(), 2);
        }
    }

    private static void crowdedTwoBuckets() {
        for (int cap = 1; cap <= 8; cap++) {
            PointerBuckets x = new PointerBuckets(2, cap, 20, 20);
            putFromTo(x, NEW, 1, CROWD_TWO[cap - 1] - 1);
            due("buckets() just not above, CAP " + cap, x.buckets(), 2);
            put(x, NEW, CROWD_TWO[cap - 1]);
            due("buckets() just above, CAP " + cap, x.buckets(), 3);
        }
    }

    private static void onePartingOnly() {
        PointerBuckets x = new PointerBuckets(1, 1, 100, 100);
        for (int n = 1; n <= 20; n++) {
            // n keys in n + 1 buckets are above 3 CAP / 4 from n = 4 on, so a second would be due.
            put(x, NEW, n);
            due("buckets() with " + n + " keys", x.buckets(), n + 1);
        }
    }

    private static void lastBucketAllowed() {
        PointerBuckets x = new PointerBuckets(1, 1, 20, 3);
        put(x, NEW, 0);
        due("buckets(), one before the last allowed", x.buckets(), 2);
        put(x, NEW, 1);
        dueState(x, "1 1 17: (0) (1) ()");
        put(x, NEW, 2);
        dueState(x, "1 1 17: (0) (1) (2)");
        put(x, NEW, 4, 3);
        dueState(x, "1 1 15: (0 4) (1 3) (2)");
        PointerBuckets atRoundEnd = new PointerBuckets(1, 1, 20, 4);
        put(atRoundEnd, NEW, 0, 1, 2, 3, 4);
        dueState(atRoundEnd, "2 0 15: (0 4) (1) (2) (3)");
    }

    private static void lastPage() {
        PointerBuckets x = new PointerBuckets(1, 8, 8, 1);
        putFromTo(x, NEW, 1, 57);
        due("free(), the last page begun", x.free(), 0);
        putFromTo(x, NEW, 58, 64);
        due("free(), the last page full", x.free(), 0);
        due("pages(0)", x.pages(0), 8);
        put(x, NO_ROOM, 65);
        due("size()", x.size(), 64);
    }

    private static void refuse(PointerBuckets x, int key, int... keysThere) {
        String before = state(x);
        put(x, NO_ROOM, key);
        dueState(x, before);
        dueValues(x, keysThere);
        due("has(" + key + "), refused", x.has(key), false);
        due("get(" + key + "), refused", x.get(key), 0);
        due("remove(" + key + "), refused", x.remove(key), false);
        dueState(x, before);
    }

    private static void noRoomForTheKey() {
        PointerBuckets x = new PointerBuckets(2, 2, 8, 2);
        int[] keys = {0, 2, 4, 6, 8, 10, 12, 14, 16, 18, 20, 22, 24, 26, 1};
        put(x, NEW, keys);
        dueState(x, "0 0 0: (0 2 4 6 8 10 12 14 16 18 20 22 24 26) (1)");
        refuse(x, 28, keys);
        put(x, NEW, 3);
        due("free(), both full", x.free(), 0);
        put(x, NO_ROOM, 5);
    }

    private static void noRoomForTheParting() {
        PointerBuckets x = new PointerBuckets(8, 2, 8, 200);
        int[] keys = {0, 8, 1, 9, 2, 10, 3, 11, 4, 12, 5, 13};
        put(x, NEW, keys);
        dueState(x, "0 0 0: (0 8) (1 9) (2 10) (3 11) (4 12) (5 13) () ()");
        refuse(x, 6, keys);
        // One key fewer: no parting is due, and the same key has a place on its page.
        remove(x, 13);
        put(x, NEW, 6);
        dueState(x, "0 0 0: (0 8) (1 9) (2 10) (3 11) (4 12) (5) (6) ()");
    }

    private static void noRoomForBoth() {
        PointerBuckets x = new PointerBuckets(8, 1, 9, 200);
        int[] keys = {0, 1, 2, 3, 4, 5};
        put(x, NEW, keys);
        dueState(x, "0 0 1: (0) (1) (2) (3) (4) (5) () ()");
        refuse(x, 9, keys);
        put(x, NEW, 8);
        dueState(x, "0 1 0: (0) (1) (2) (3) (4) (5) () () (8)");
    }

    private static void noRoomWhereItGoesRound() {
        PointerBuckets x = new PointerBuckets(4, 1, 8, 200);
        int[] keys = {0, 1, 2, 16, 4, 3};
        put(x, NEW, keys);
        dueState(x, "0 3 0: (0 16) (1) (2) (3) (4) () ()");
        refuse(x, 32, keys);
        refuse(x, 7, keys);
        due("bucketOf(7)", x.bucketOf(7), 3);
        due("pages(7)", x.pages(7), BAD);
    }

    private static void roomAgain() {
        PointerBuckets x = new PointerBuckets(1, 2, 8, 1);
        putFromTo(x, NEW, 1, 16);
        put(x, NO_ROOM, 17);
        remove(x, 3);
        put(x, NEW, 17);
        put(x, NO_ROOM, 3);
        dueState(x, "0 0 0: (1 2 16 4 5 6 7 8 9 10 11 12 13 14 15 17)");
    }

    private static void partingWithoutPage() {
        PointerBuckets x = new PointerBuckets(8, 2, 9, 200);
        put(x, NEW, 0, 16, 8, 24, 1, 9, 2, 10, 3, 11, 4, 12);
        dueState(x, "0 0 0: (0 16 8 24) (1 9) (2 10) (3 11) (4 12) () () ()");
        put(x, NEW, 5);
        dueState(x, "0 1 0: (0 16) (1 9) (2 10) (3 11) (4 12) (5) () () (8 24)");
    }

    private static void noPageNoParting() {
        PointerBuckets x = new PointerBuckets(8, 2, 8, 8);
        put(x, NEW, 0, 8, 1, 9, 2, 10, 3, 11, 4, 12, 5, 13);
        put(x, NEW, 6, 14, 7, 15);
        dueState(x, "0 0 0: (0 8) (1 9) (2 10) (3 11) (4 12) (5 13) (6 14) (7 15)");
        put(x, NO_ROOM, 16);
    }

    // Promises 3 and 4: get, has.

    private static final int[] ALL_SORTS = {0, 1, -1, 2, 512, LEAST, MOST};

    /** Keys of buckets that have keys and of one that has none; near those there, and gone ones. */
    private static PointerBuckets withGoneKeys() {
        PointerBuckets x = new PointerBuckets(4, 2, 20, 4);
        put(x, NEW, 0, 4, 8, 1, -3);
        remove(x, 0, 8);
        dueState(x, "0 0 16: (4) (1 -3) () ()");
        return x;
    }

    private static final int[] NOT_THERE = {0, 8, 5, 2, 3, -1, -4, LEAST, LEAST + 1, LEAST + 4, MOST};

    private static void getOnEmpty() {
        PointerBuckets x = new PointerBuckets(2, 2, 20, 20);
        for (int key : ALL_SORTS) {
            due("get(" + key + ")", x.get(key), 0);
        }
    }

    private static void getNotThere() {
        PointerBuckets x = withGoneKeys();
        for (int key : NOT_THERE) {
            due("get(" + key + ")", x.get(key), 0);
        }
        dueValues(x, 4, 1, -3);
    }

    private static void hasOnEmpty() {
        PointerBuckets x = new PointerBuckets(2, 2, 20, 20);
        for (int key : ALL_SORTS) {
            due("has(" + key + ")", x.has(key), false);
        }
    }

    private static void hasNotThere() {
        PointerBuckets x = withGoneKeys();
        for (int key : NOT_THERE) {
            due("has(" + key + ")", x.has(key), false);
        }
        for (int key : new int[] {4, 1, -3}) {
            due("has(" + key + ")", x.has(key), true);
        }
    }

    // Promise 5: remove.

    private static void lastComesToThePlace() {
        PointerBuckets x = new PointerBuckets(2, 2, 20, 2);
        put(x, NEW, 0, 2, 4, 6, 8, 1, 3);
        remove(x, 2);
        dueState(x, "0 0 17: (0 8 4 6) (1 3)");
        remove(x, 0);
        dueState(x, "0 0 17: (6 8 4) (1 3)");
        dueValues(x, 6, 8, 4, 1, 3);
    }

    private static void removeTheLast() {
        PointerBuckets x = new PointerBuckets(2, 2, 20, 2);
        put(x, NEW, 0, 2, 4, 1, 3);
        remove(x, 4);
        dueState(x, "0 0 18: (0 2) (1 3)");
        remove(x, 3);
        dueState(x, "0 0 18: (0 2) (1)");
        dueValues(x, 0, 2, 1);
    }

    private static void removeTheOnlyOne() {
        PointerBuckets x = new PointerBuckets(2, 2, 20, 2);
        put(x, NEW, 0, 1, 3);
        remove(x, 0);
        dueState(x, "0 0 18: () (1 3)");
        remove(x, 1, 3);
        dueState(x, "0 0 18: () ()");
        due("size()", x.size(), 0);
    }

    private static void rowBehindRemoveIsParted() {
        PointerBuckets x = new PointerBuckets(1, 4, 20, 20);
        put(x, NEW, 0, 2, 1);
        remove(x, 0);
        dueState(x, "0 0 19: (1 2)");
        put(x, NEW, 4, 3);
        dueState(x, "1 0 18: (2 4) (1 3)");
        remove(x, 2);
        put(x, NEW, 2, 6, 8, 10);
        dueState(x, "1 1 17: (4 8) (1 3) (2 6 10)");
    }

    /** For CAP 1 to 8: with so few keys the second of two buckets is joined back. */
    private static final int[] FEW_OF_TWO = {0, 0, 1, 1, 2, 2, 3, 3};
    /** For CAP 1 to 8: with so few keys the last of three buckets is joined back. */
    private static final int[] FEW_OF_THREE = {0, 1, 2, 2, 3, 4, 5, 5};

    private static void dueSparse(int base, int buckets, int[] crowd, int[] few) {
        for (int cap = 1; cap <= 8; cap++) {
            PointerBuckets x = new PointerBuckets(base, cap, 20, buckets);
            putFromTo(x, NEW, 1, crowd[cap - 1]);
            for (int n = crowd[cap - 1] - 1; n > few[cap - 1]; n--) {
                remove(x, n + 1);
                due("buckets() with " + n + " keys, not below, CAP " + cap, x.buckets(), buckets);
            }
            remove(x, few[cap - 1] + 1);
            due("buckets() with " + few[cap - 1] + " keys, below, CAP " + cap, x.buckets(), buckets - 1);
        }
    }

    private static void sparseTwoBuckets() {
        dueSparse(1, 2, CROWD_ONE, FEW_OF_TWO);
    }

    private static void sparseThreeBuckets() {
        dueSparse(2, 3, CROWD_TWO, FEW_OF_THREE);
    }

    private static void oneJoiningOnly() {
        PointerBuckets x = new PointerBuckets(1, 1, 20, 20);
        put(x, NEW, 0, 1, 2, 3, 4, 5, 6, 7);
        remove(x, 0, 1, 2, 3, 4);
        due("buckets() with 3 keys", x.buckets(), 9);
        remove(x, 5);
        due("buckets() with 2 keys", x.buckets(), 8);
        remove(x, 6);
        due("buckets() with 1 key", x.buckets(), 7);
        remove(x, 7);
        due("buckets() with none", x.buckets(), 6);
    }

    private static void oneMoreThanBase() {
        PointerBuckets x = new PointerBuckets(4, 1, 20, 5);
        put(x, NEW, 0, 1, 2, 4);
        dueState(x, "0 1 15: (0) (1) (2) () (4)");
        remove(x, 0, 1);
        dueState(x, "0 1 15: () () (2) () (4)");
        remove(x, 2);
        dueState(x, "0 0 16: (4) () () ()");
    }

    private static void baseBuckets() {
        for (int base = 1; base <= 8; base++) {
            PointerBuckets x = new PointerBuckets(base, 8, 20, 20);
            put(x, NEW, 3, 4);
            remove(x, 3);
            dueShape(x, 0, 0, base);
            remove(x, 4);
            dueShape(x, 0, 0, base);
            due("free()", x.free(), 20 - base);
        }
    }

    private static void removeOnEmpty() {
        PointerBuckets x = new PointerBuckets(2, 2, 20, 20);
        for (int key : ALL_SORTS) {
            due("remove(" + key + ")", x.remove(key), false);
        }
        dueState(x, "0 0 18: () ()");
    }

    private static void removeNotThere() {
        PointerBuckets x = new PointerBuckets(1, 1, 20, 20);
        put(x, NEW, 0, 1, 2, 3, 4, 5, 6);
        remove(x, 0, 1, 2, 3, 4, 5);
        // One key in seven buckets is still below CAP / 4 for each.
        dueState(x, "2 3 13: () () () () () () (6)");
        String before = state(x);
        for (int key : new int[] {0, 2, 14, -2, LEAST, MOST}) {
            due("remove(" + key + ")", x.remove(key), false);
        }
        dueState(x, before);
        dueValues(x, 6);
    }

    // Promises 6 to 10: size, buckets, level, pointer, bucketOf.

    private static PointerBuckets baseThree() {
        return new PointerBuckets(3, 1, 100, 13);
    }

    private static void joinOnce(PointerBuckets x) {
        put(x, NEW, 30);
        remove(x, 30);
    }

    /** What the call answers at first, behind 12 puts, 12 removals, and 7 times a put and a removal. */
    private static void dueOnTheWay(String name, ToIntFunction<PointerBuckets> call, int... due) {
        PointerBuckets x = baseThree();
        due(name + " at first", call.applyAsInt(x), due[0]);
        for (int n = 1; n <= 12; n++) {
            put(x, NEW, n - 1);
            due(name + " behind put " + n, call.applyAsInt(x), due[n]);
        }
        for (int n = 1; n <= 12; n++) {
            remove(x, 12 - n);
            due(name + " behind removal " + n, call.applyAsInt(x), due[12 + n]);
        }
        for (int n = 1; n <= 7; n++) {
            joinOnce(x);
            due(name + " with no key left, time " + n, call.applyAsInt(x), due[24 + n]);
        }
    }

    private static void sizes() {
        dueOnTheWay("size()", PointerBuckets::size,
            0,
            1, 2, 3, 4, 5, 6, 7, 8, 9, 10, 11, 12,
            11, 10, 9, 8, 7, 6, 5, 4, 3, 2, 1, 0,
            0, 0, 0, 0, 0, 0, 0);
    }

    private static void bucketCounts() {
        dueOnTheWay("buckets()", PointerBuckets::buckets,
            3,
            3, 3, 4, 5, 6, 7, 8, 9, 10, 11, 12, 13,
            13, 13, 13, 13, 13, 13, 13, 13, 12, 11, 10, 9,
            8, 7, 6, 5, 4, 3, 3);
    }

    private static void levels() {
        dueOnTheWay("level()", PointerBuckets::level,
            0,
            0, 0, 0, 0, 1, 1, 1, 1, 1, 1, 2, 2,
            2, 2, 2, 2, 2, 2, 2, 2, 2, 1, 1, 1,
            1, 1, 1, 0, 0, 0, 0);
    }

    private static void pointers() {
        dueOnTheWay("pointer()", PointerBuckets::pointer,
            0,
            0, 0, 1, 2, 0, 1, 2, 3, 4, 5, 0, 1,
            1, 1, 1, 1, 1, 1, 1, 1, 0, 5, 4, 3,
            2, 1, 0, 2, 1, 0, 0);
    }

    private static void dueBucketsOf(PointerBuckets x, int... due) {
        for (int key = 0; key < due.length; key++) {
            due("bucketOf(" + key + ")", x.bucketOf(key), due[key]);
        }
    }

    private static void bucketOfAtFirst() {
        dueBucketsOf(baseThree(), 0, 1, 2, 0, 1, 2, 0, 1, 2, 0, 1, 2);
        dueBucketsOf(new PointerBuckets(1, 1, 100, 13), 0, 0, 0);
        dueBucketsOf(new PointerBuckets(8, 1, 100, 13), 0, 1, 2, 3, 4, 5, 6, 7, 0, 1);
    }

    private static void bucketOfBehindRound() {
        PointerBuckets x = baseThree();
        putFromTo(x, NEW, 0, 11);
        dueShape(x, 2, 1, 13);
        dueBucketsOf(x, 0, 1, 2, 3, 4, 5, 6, 7, 8, 9, 10, 11, 12, 1, 2, 3);
        due("bucketOf(24)", x.bucketOf(24), 0);
        due("bucketOf(36)", x.bucketOf(36), 12);
        remove(x, 0, 1, 2, 3, 4, 5, 6, 7, 8, 9, 10, 11);
        dueShape(x, 1, 3, 9);
        dueBucketsOf(x, 0, 1, 2, 3, 4, 5, 6, 7, 8, 3, 4, 5, 0, 1, 2, 3);
        joinOnce(x);
        joinOnce(x);
        joinOnce(x);
        dueShape(x, 1, 0, 6);
        dueBucketsOf(x, 0, 1, 2, 3, 4, 5, 0, 1, 2, 3, 4, 5, 0, 1, 2, 3);
        joinOnce(x);
        dueShape(x, 0, 2, 5);
        dueBucketsOf(x, 0, 1, 2, 3, 4, 2, 0, 1, 2, 3, 4, 2, 0, 1, 2, 3);
    }

    private static void bucketOfNotThere() {
        PointerBuckets x = new PointerBuckets(2, 4, 20, 20);
        put(x, NEW, 0, 1);
        due("bucketOf(7)", x.bucketOf(7), 1);
        due("has(7)", x.has(7), false);
        dueState(x, "0 0 18: (0) (1)");
        put(x, NEW, 7);
        due("bucketOf(7), there", x.bucketOf(7), 1);
        remove(x, 7);
        due("bucketOf(7), gone", x.bucketOf(7), 1);
        dueState(x, "0 0 18: (0) (1)");
    }

    private static void bucketOfNegative() {
        PointerBuckets x = new PointerBuckets(3, 1, 100, 5);
        put(x, NEW, 0, 1, 2, 3);
        dueState(x, "0 2 95: (0) (1) (2) (3) ()");
        int[] ofMinus = {1, 0, 2, 4, 3, 2, 1};
        for (int n = 1; n <= ofMinus.length; n++) {
            due("bucketOf(" + -n + ")", x.bucketOf(-n), ofMinus[n - 1]);
        }
        int[] ofSignAnd = {0, 1, 2, 3, 4, 2, 0};
        for (int n = 0; n < ofSignAnd.length; n++) {
            due("bucketOf(-2147483648 + " + n + ")", x.bucketOf(LEAST + n), ofSignAnd[n]);
        }
        put(x, NEW, -4, -6);
        dueState(x, "0 2 94: (0) (1) (2 -6) (3) (-4)");
    }

    // Promises 11 to 14: pages, free, key, clear.

    private static void pagesBelowZero() {
        PointerBuckets x = new PointerBuckets(2, 1, 20, 20);
        for (int bucket : new int[] {-1, -2, -200, LEAST}) {
            due("pages(" + bucket + "), new", x.pages(bucket), BAD);
        }
        put(x, NEW, 0, 1, 2, 3);
        for (int bucket : new int[] {-1, -2, -200, LEAST}) {
            due("pages(" + bucket + ")", x.pages(bucket), BAD);
        }
    }

    private static void pagesTooLarge() {
        PointerBuckets x = new PointerBuckets(2, 1, 20, 3);
        due("pages(1), the last", x.pages(1), 1);
        due("pages(2), not yet there", x.pages(2), BAD);
        put(x, NEW, 0, 1);
        due("pages(2), there", x.pages(2), 1);
        for (int bucket : new int[] {3, 4, 20, 199, 200, 201, MOST}) {
            due("pages(" + bucket + ")", x.pages(bucket), BAD);
        }
        remove(x, 0, 1);
        due("buckets()", x.buckets(), 2);
        due("pages(2), joined back", x.pages(2), BAD);
    }

    private static void pagesOfEmpty() {
        PointerBuckets x = new PointerBuckets(2, 2, 20, 3);
        due("pages(0), new", x.pages(0), 1);
        due("pages(1), new", x.pages(1), 1);
        put(x, NEW, 0, 4, 8, 12);
        dueState(x, "0 1 16: (0 4 8 12) () ()");
        due("pages(0)", x.pages(0), 2);
        due("pages(1), never a key", x.pages(1), 1);
        due("pages(2), none came by the parting", x.pages(2), 1);
    }

    private static void freeNone() {
        due("free(), BASE pages in all", new PointerBuckets(8, 8, 8, 200).free(), 0);
        PointerBuckets byKeys = new PointerBuckets(1, 1, 8, 1);
        putFromTo(byKeys, NEW, 1, 7);
        due("free(), one before none", byKeys.free(), 1);
        put(byKeys, NEW, 8);
        due("free(), by keys", byKeys.free(), 0);
        put(byKeys, NO_ROOM, 9);
        due("free(), refused", byKeys.free(), 0);
        PointerBuckets byPartings = new PointerBuckets(1, 1, 8, 200);
        putFromTo(byPartings, NEW, 0, 6);
        dueState(byPartings, "3 0 0: (0) (1) (2) (3) (4) (5) (6) ()");
        put(byPartings, NO_ROOM, 7);
        due("free(), refused", byPartings.free(), 0);
    }

    private static void freeAllButBase() {
        for (int base = 1; base <= 8; base++) {
            PointerBuckets x = new PointerBuckets(base, 4, 300, 200);
            due("free() at first, BASE " + base, x.free(), 300 - base);
            put(x, NEW, 3);
            due("free() with one key, BASE " + base, x.free(), 300 - base);
            putFromTo(x, NEW, 4, 40);
            for (int key = 3; key <= 40; key++) {
                remove(x, key);
            }
            for (int i = 0; i < 20; i++) {
                joinOnce(x);
            }
            due("free() with no key again, BASE " + base, x.free(), 300 - base);
        }
    }

    private static void keyOfNoBucket() {
        PointerBuckets x = new PointerBuckets(2, 1, 20, 3);
        due("key(2, 0), not yet there", x.key(2, 0), BAD);
        put(x, NEW, 0, 1, 2);
        dueState(x, "0 1 17: (0) (1) (2)");
        due("key(2, 0), there", x.key(2, 0), 2);
        for (int bucket : new int[] {-1, -2, 3, 4, 200, LEAST, MOST}) {
            due("key(" + bucket + ", 0)", x.key(bucket, 0), BAD);
        }
        remove(x, 0, 1, 2);
        put(x, NEW, 2);
        dueState(x, "0 0 18: (2) ()");
        due("key(2, 0), joined back", x.key(2, 0), BAD);
    }

    private static void keyBelowZero() {
        PointerBuckets x = new PointerBuckets(2, 2, 20, 2);
        put(x, NEW, 0, 1, 2, 3);
        for (int k : new int[] {-1, -2, -512, LEAST}) {
            due("key(0, " + k + ")", x.key(0, k), BAD);
            due("key(1, " + k + ")", x.key(1, k), BAD);
        }
        due("key(0, 0)", x.key(0, 0), 0);
    }

    private static void keyBehindRow() {
        PointerBuckets x = new PointerBuckets(2, 2, 20, 2);
        due("key(0, 0), an empty row", x.key(0, 0), BAD);
        put(x, NEW, 0, 2, 4, 1);
        due("key(0, 2), the last of the row", x.key(0, 2), 4);
        for (int k : new int[] {3, 4, 512, MOST}) {
            due("key(0, " + k + ")", x.key(0, k), BAD);
        }
        due("key(1, 1)", x.key(1, 1), BAD);
        remove(x, 4);
        due("key(0, 2), the row is shorter", x.key(0, 2), BAD);
        remove(x, 1);
        due("key(1, 0), the row is empty again", x.key(1, 0), BAD);
    }

    private static void keyThatIsBad() {
        PointerBuckets x = new PointerBuckets(2, 4, 20, 2);
        put(x, NEW, 1, -1, 3);
        due("key(1, 0)", x.key(1, 0), 1);
        due("key(1, 1), the key -1", x.key(1, 1), -1);
        due("key(1, 2), behind the key -1", x.key(1, 2), 3);
        due("key(1, 3)", x.key(1, 3), BAD);
        dueValues(x, 1, -1, 3);
        due("put(-1) again", x.put(-1, 5), OLD);
        due("get(-1)", x.get(-1), 5);
        remove(x, -1);
        due("key(1, 1), the key -1 gone", x.key(1, 1), 3);
        due("has(-1)", x.has(-1), false);
    }

    private static void clearBehindPartings() {
        PointerBuckets x = new PointerBuckets(2, 1, 20, 7);
        for (int time = 1; time <= 2; time++) {
            putFromTo(x, NEW, 0, 7);
            dueState(x, "1 3 12: (0) (1) (2) (3 7) (4) (5) (6)");
            x.clear();
            dueState(x, "0 0 18: () ()");
            due("size()", x.size(), 0);
            due("pages(2)", x.pages(2), BAD);
            due("bucketOf(6)", x.bucketOf(6), 0);
            for (int key = 0; key <= 7; key++) {
                due("has(" + key + ")", x.has(key), false);
                due("get(" + key + ")", x.get(key), 0);
                due("remove(" + key + ")", x.remove(key), false);
            }
        }
    }

    private static void clearOfFull() {
        PointerBuckets x = new PointerBuckets(1, 1, 8, 1);
        putFromTo(x, NEW, 1, 8);
        put(x, NO_ROOM, 9);
        x.clear();
        due("free()", x.free(), 7);
        putFromTo(x, NEW, 9, 16);
        put(x, NO_ROOM, 1);
        dueState(x, "0 0 0: (9 10 11 12 13 14 15 16)");
    }

    private static void clearOfNew() {
        PointerBuckets x = new PointerBuckets(3, 2, 20, 20);
        x.clear();
        dueState(x, "0 0 17: () () ()");
        x.clear();
        put(x, NEW, 4);
        dueState(x, "0 0 17: () (4) ()");
    }
}
