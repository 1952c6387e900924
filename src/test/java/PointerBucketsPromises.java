/** Each promise of the document by itself: ordinary inputs, the edges it names, wrong inputs. */
public final class PointerBucketsPromises {
    private static int wrong = 0;

    private static void due(String what, long got, long want) {
        if (got != want) {
            wrong++;
            System.out.println(what + " answered " + got + ", due is " + want);
        }
    }

    private static void due(String what, boolean got, boolean want) {
        due(what, got ? 1 : 0, want ? 1 : 0);
    }

    private static void dueRow(String what, PointerBuckets x, int bucket, int... row) {
        for (int k = 0; k < row.length; k++) {
            due(what + ": key(" + bucket + ", " + k + ")", x.key(bucket, k), row[k]);
        }
        due(what + ": behind the row of " + bucket, x.key(bucket, row.length), PointerBuckets.BAD);
    }

    private static void dueShape(String what, PointerBuckets x, int size, int level, int pointer, int buckets, int free) {
        due(what + ": size", x.size(), size);
        due(what + ": level", x.level(), level);
        due(what + ": pointer", x.pointer(), pointer);
        due(what + ": buckets", x.buckets(), buckets);
        due(what + ": free", x.free(), free);
    }

    private static void putAll(String what, PointerBuckets x, int answer, int... keys) {
        for (int key : keys) {
            due(what + ": put(" + key + ")", x.put(key, key + 1), answer);
        }
    }

    private static void removeAll(String what, PointerBuckets x, int... keys) {
        for (int key : keys) {
            due(what + ": remove(" + key + ")", x.remove(key), true);
        }
    }

    public static void main(String[] args) {
        newObject();
        boundsOfCap();
        boundsOfPages();
        boundsOfBuckets();
        putOldKey();
        putParts();
        putPartsOnceOnly();
        putOldKeyDoesNotPart();
        putWithoutRoom();
        putWithoutRoomForTheParting();
        putWithoutRoomUndoesTheLevel();
        putToTheLastPage();
        putAsManyAsThereAreCalls();
        getAndHas();
        removeTakesTheLastToThePlace();
        removeJoins();
        removeJoinsOverALevel();
        removeJoinsOnceOnly();
        removeKeepsTheBase();
        removeOfNoneChangesNothing();
        bucketOfKeys();
        pagesOfBuckets();
        keysOfRows();
        clearIsAsAtFirst();
        objectsAreApart();
        theLastCallIsAnswered();
        readmeExample();
        System.out.println(wrong == 0 ? "all answers are as due" : wrong + " answers are not as due");
        if (wrong != 0) {
            System.exit(1);
        }
    }

    private static void newObject() {
        dueShape("promise 1", new PointerBuckets(3, 4, 50, 20), 0, 0, 0, 3, 47);
        dueShape("promise 1, least", new PointerBuckets(1, 1, 8, 1), 0, 0, 0, 1, 7);
        dueShape("promise 1, most", new PointerBuckets(8, 8, 300, 200), 0, 0, 0, 8, 292);
        dueShape("promise 1, below", new PointerBuckets(0, 0, 7, 0), 0, 0, 0, 1, 7);
        dueShape("promise 1, above", new PointerBuckets(9, 9, 301, 201), 0, 0, 0, 8, 292);
        int min = Integer.MIN_VALUE;
        int max = Integer.MAX_VALUE;
        dueShape("promise 1, far below", new PointerBuckets(min, min, min, min), 0, 0, 0, 1, 7);
        dueShape("promise 1, far above", new PointerBuckets(max, max, max, max), 0, 0, 0, 8, 292);
        dueShape("promise 1, as many pages as buckets", new PointerBuckets(8, 8, 8, 8), 0, 0, 0, 8, 0);
    }

    private static void boundsOfCap() {
        for (int cap : new int[] {0, 1, -5}) {
            PointerBuckets x = new PointerBuckets(1, cap, 20, 1);
            putAll("cap 1", x, PointerBuckets.NEW, 1, 2);
            due("promise 1: cap " + cap + " is 1", x.pages(0), 2);
        }
        for (int cap : new int[] {8, 9, 1000}) {
            PointerBuckets x = new PointerBuckets(1, cap, 20, 1);
            putAll("cap 8", x, PointerBuckets.NEW, 1, 2, 3, 4, 5, 6, 7, 8);
            due("promise 1: cap " + cap + " is 8", x.pages(0), 1);
            putAll("cap 8", x, PointerBuckets.NEW, 9);
            due("promise 1: cap " + cap + " is 8, not more", x.pages(0), 2);
        }
    }

    private static void boundsOfPages() {
        for (int pages : new int[] {7, 8, -1}) {
            PointerBuckets x = new PointerBuckets(1, 1, pages, 1);
            putAll("pages 8", x, PointerBuckets.NEW, 1, 2, 3, 4, 5, 6, 7, 8);
            putAll("pages 8", x, PointerBuckets.NO_ROOM, 9);
        }
        for (int pages : new int[] {300, 301, 5000}) {
            PointerBuckets x = new PointerBuckets(1, 1, pages, 1);
            for (int key = 1; key <= 300; key++) {
                due("pages 300: put", x.put(key, 0), PointerBuckets.NEW);
            }
            putAll("pages 300", x, PointerBuckets.NO_ROOM, 301);
            due("pages 300: free", x.free(), 0);
        }
    }

    private static void boundsOfBuckets() {
        for (int buckets : new int[] {2, 3, 4, -9}) {
            PointerBuckets x = new PointerBuckets(4, 1, 100, buckets);
            for (int key = 0; key < 20; key++) {
                due("no more buckets than base: put", x.put(key, 0), PointerBuckets.NEW);
            }
            due("promise 1: " + buckets + " buckets are brought to base", x.buckets(), 4);
        }
        for (int buckets : new int[] {200, 201, 999}) {
            PointerBuckets x = new PointerBuckets(8, 1, 300, buckets);
            for (int key = 0; key < 230; key++) {
                due("most buckets: put", x.put(key, 0), PointerBuckets.NEW);
            }
            due("promise 1: " + buckets + " buckets are brought to 200", x.buckets(), 200);
            due("most buckets: level", x.level(), 4);
            due("most buckets: pointer", x.pointer(), 72);
        }
        PointerBuckets x = new PointerBuckets(2, 1, 100, 5);
        for (int key = 0; key < 30; key++) {
            due("five buckets: put", x.put(key, 0), PointerBuckets.NEW);
        }
        dueShape("promise 2: only five buckets may be", x, 30, 1, 1, 5, 70);
    }

    private static void putOldKey() {
        PointerBuckets x = new PointerBuckets(1, 8, 20, 1);
        putAll("promise 2", x, PointerBuckets.NEW, 30, 10, 20);
        due("promise 2: put again", x.put(10, 77), PointerBuckets.OLD);
        due("promise 2: the new value", x.get(10), 77);
        due("promise 2: another's value", x.get(20), 21);
        dueRow("promise 2: it stands where it stood", x, 0, 30, 10, 20);
        due("promise 2: size", x.size(), 3);
        due("promise 2: the same value", x.put(10, 77), PointerBuckets.OLD);
        due("promise 2: value 0", x.put(10, 0), PointerBuckets.OLD);
        due("promise 2: value 0 is had", x.has(10), true);
    }

    private static void putParts() {
        PointerBuckets x = new PointerBuckets(1, 4, 40, 10);
        putAll("promise 2", x, PointerBuckets.NEW, 5, 2, 7);
        dueShape("promise 2: three quarters are not above", x, 3, 0, 0, 1, 39);
        putAll("promise 2", x, PointerBuckets.NEW, 4);
        dueShape("promise 2: above, a parting", x, 4, 1, 0, 2, 38);
        dueRow("parting: in their order", x, 0, 2, 4);
        dueRow("parting: in their order", x, 1, 5, 7);
        putAll("promise 2", x, PointerBuckets.NEW, 6, 1);
        dueShape("promise 2: not above", x, 6, 1, 0, 2, 38);
        putAll("promise 2", x, PointerBuckets.NEW, 8);
        dueShape("promise 2: the pointer goes on", x, 7, 1, 1, 3, 37);
        dueRow("parting: bucket at the pointer", x, 0, 4, 8);
        dueRow("parting: another is left alone", x, 1, 5, 7, 1);
        dueRow("parting: the new last bucket", x, 2, 2, 6);
        due("parting: values go along", x.get(6), 7);
    }

    private static void putPartsOnceOnly() {
        PointerBuckets x = new PointerBuckets(1, 1, 100, 100);
        for (int key = 0; key < 12; key++) {
            x.put(key, 0);
            due("promise 2: one parting a put", x.buckets(), key + 2);
        }
    }

    private static void putOldKeyDoesNotPart() {
        // With CAP 1 a put brings more than its parting makes up for, so it stays crowded behind it.
        PointerBuckets x = new PointerBuckets(1, 1, 100, 100);
        for (int key = 0; key < 8; key++) {
            x.put(key, 0);
        }
        int before = x.buckets();
        due("promise 2: eight keys", before, 9);
        due("promise 2", 4 * x.size() > 3 * x.buckets(), true);
        due("promise 2: old", x.put(3, 9), PointerBuckets.OLD);
        due("promise 2: an old key parts nothing", x.buckets(), before);
    }

    private static void putWithoutRoom() {
        PointerBuckets x = new PointerBuckets(2, 2, 8, 2);
        putAll("no room", x, PointerBuckets.NEW, 0, 2, 4, 6, 8, 10, 12, 14, 16, 18, 20, 22, 24, 26);
        due("no room: 7 and 1 pages", x.free(), 0);
        putAll("no room", x, PointerBuckets.NO_ROOM, 28, 30);
        dueShape("no room: nothing is changed", x, 14, 0, 0, 2, 0);
        due("no room: not there", x.has(28), false);
        due("no room: no value", x.get(28), 0);
        dueRow("no room: the row", x, 0, 0, 2, 4, 6, 8, 10, 12, 14, 16, 18, 20, 22, 24, 26);
        due("no room: an old key", x.put(26, 5), PointerBuckets.OLD);
        due("no room: an old key's value", x.get(26), 5);
        putAll("room on a page that is there", x, PointerBuckets.NEW, 1, 3);
        putAll("no room on it any more", x, PointerBuckets.NO_ROOM, 5);
        removeAll("no room", x, 0, 2);
        putAll("room again", x, PointerBuckets.NEW, 5);
    }

    private static void putWithoutRoomForTheParting() {
        // The key itself has a place on its page; only the new bucket's page is too much.
        PointerBuckets x = new PointerBuckets(8, 2, 8, 200);
        putAll("parting without room", x, PointerBuckets.NEW, 0, 8, 1, 9, 2, 10, 3, 11, 4, 12, 5, 13);
        dueShape("parting without room", x, 12, 0, 0, 8, 0);
        putAll("parting without room", x, PointerBuckets.NO_ROOM, 6);
        dueShape("parting without room: nothing is changed", x, 12, 0, 0, 8, 0);
        due("parting without room: not there", x.has(6), false);
        dueRow("parting without room", x, 6);
        dueRow("parting without room", x, 0, 0, 8);
        removeAll("parting without room", x, 13);
        putAll("no parting is due", x, PointerBuckets.NEW, 6);
    }

    private static void putWithoutRoomUndoesTheLevel() {
        PointerBuckets x = new PointerBuckets(4, 1, 8, 200);
        putAll("level undone", x, PointerBuckets.NEW, 0, 1, 2, 16, 4);
        dueShape("level undone: before", x, 5, 0, 2, 6, 1);
        putAll("level undone", x, PointerBuckets.NEW, 3);
        dueShape("level undone: one before the round's end", x, 6, 0, 3, 7, 0);
        putAll("level undone", x, PointerBuckets.NO_ROOM, 32);
        dueShape("level undone: nothing is changed", x, 6, 0, 3, 7, 0);
        due("level undone: bucketOf", x.bucketOf(7), 3);
        due("level undone: pages", x.pages(7), PointerBuckets.BAD);
    }

    private static void putToTheLastPage() {
        PointerBuckets x = new PointerBuckets(1, 8, 8, 1);
        for (int key = 0; key < 64; key++) {
            due("all pages full: put", x.put(key, key), PointerBuckets.NEW);
        }
        due("all pages full: pages", x.pages(0), 8);
        due("all pages full: put", x.put(64, 64), PointerBuckets.NO_ROOM);
        due("all pages full: old", x.put(63, 1), PointerBuckets.OLD);
        due("all pages full: last", x.key(0, 63), 63);
        removeAll("all pages full", x, 63);
        due("all pages full: put", x.put(64, 64), PointerBuckets.NEW);
        dueShape("all pages full", x, 64, 0, 0, 1, 0);
    }

    private static void putAsManyAsThereAreCalls() {
        PointerBuckets x = new PointerBuckets(8, 8, 300, 200);
        for (int key = 0; key < 511; key++) {
            due("511 keys: put(" + key + ")", x.put(key, key), PointerBuckets.NEW);
        }
        due("511 keys: buckets", x.buckets(), 86);
        PointerBuckets y = new PointerBuckets(1, 8, 300, 1);
        for (int key = 0; key < 512; key++) {
            due("512 keys: put(" + key + ")", y.put(key, key), PointerBuckets.NEW);
        }
    }

    private static void getAndHas() {
        PointerBuckets x = new PointerBuckets(2, 2, 40, 20);
        due("promise 3: none in a new one", x.get(0), 0);
        due("promise 4: none in a new one", x.has(0), false);
        int[] keys = {0, -1, 1, Integer.MIN_VALUE, Integer.MAX_VALUE, -7, 7};
        for (int i = 0; i < keys.length; i++) {
            due("put", x.put(keys[i], 100 - i), PointerBuckets.NEW);
        }
        for (int i = 0; i < keys.length; i++) {
            due("promise 3: get(" + keys[i] + ")", x.get(keys[i]), 100 - i);
            due("promise 4: has(" + keys[i] + ")", x.has(keys[i]), true);
        }
        due("promise 3: none", x.get(2), 0);
        due("promise 4: none", x.has(2), false);
        due("promise 3: of the same bucket, not there", x.get(8), 0);
        x.put(7, 0);
        due("promise 3: value 0", x.get(7), 0);
        due("promise 4: with value 0", x.has(7), true);
        x.put(7, Integer.MIN_VALUE);
        due("promise 3: least value", x.get(7), Integer.MIN_VALUE);
        x.put(7, PointerBuckets.BAD);
        due("promise 3: value -1", x.get(7), -1);
        x.remove(7);
        due("promise 3: gone", x.get(7), 0);
        due("promise 4: gone", x.has(7), false);
    }

    private static void removeTakesTheLastToThePlace() {
        PointerBuckets x = new PointerBuckets(2, 8, 20, 2);
        putAll("promise 5", x, PointerBuckets.NEW, 0, 1, 2, 3, 4, 5, 6, 7, 8);
        removeAll("promise 5: in the middle", x, 2);
        dueRow("promise 5: the last one comes to its place", x, 0, 0, 8, 4, 6);
        dueRow("promise 5: another bucket is left alone", x, 1, 1, 3, 5, 7);
        due("promise 5: its value comes along", x.get(8), 9);
        due("promise 5: size", x.size(), 8);
        removeAll("promise 5: the first", x, 0);
        dueRow("promise 5: the first", x, 0, 6, 8, 4);
        removeAll("promise 5: the last", x, 4);
        dueRow("promise 5: the last", x, 0, 6, 8);
        removeAll("promise 5: all of a bucket", x, 6, 8);
        dueRow("promise 5: all of a bucket", x, 0);
        due("promise 5: one page at least", x.pages(0), 1);
        due("promise 5: twice", x.remove(8), false);
        putAll("promise 5: put again", x, PointerBuckets.NEW, 2);
        dueRow("promise 5: put again", x, 0, 2);
    }

    private static void removeJoins() {
        PointerBuckets x = new PointerBuckets(2, 4, 40, 20);
        putAll("joining", x, PointerBuckets.NEW, 4, 0, 6, 2, 1, 3, 8);
        dueShape("joining: before", x, 7, 0, 1, 3, 37);
        dueRow("joining: before", x, 0, 4, 0, 8);
        dueRow("joining: before", x, 2, 6, 2);
        removeAll("joining", x, 1, 3, 8, 6);
        dueShape("promise 5: a quarter is not below", x, 3, 0, 1, 3, 37);
        removeAll("joining", x, 0);
        dueShape("promise 5: below, a joining", x, 2, 0, 0, 2, 38);
        dueRow("joining: the last bucket's keys come behind", x, 0, 4, 2);

        PointerBuckets y = new PointerBuckets(1, 8, 40, 20);
        putAll("joining", y, PointerBuckets.NEW, 1, 3, 5, 7, 9, 2, 4);
        dueShape("joining: before", y, 7, 1, 0, 2, 38);
        removeAll("joining", y, 5, 7, 9);
        dueShape("promise 5: a quarter is not below", y, 4, 1, 0, 2, 38);
        removeAll("joining", y, 4);
        dueShape("promise 5: below, a joining", y, 3, 0, 0, 1, 39);
        dueRow("joining: behind, though put before", y, 0, 2, 1, 3);
        due("joining: values come along", y.get(3), 4);
        putAll("joining", y, PointerBuckets.NEW, 11);
        dueRow("joining: a new key behind all", y, 0, 2, 1, 3, 11);
    }

    private static void removeJoinsOverALevel() {
        PointerBuckets x = new PointerBuckets(3, 1, 60, 60);
        for (int key = 0; key < 8; key++) {
            x.put(key, key);
        }
        dueShape("over a level: before", x, 8, 1, 3, 9, 51);
        removeAll("over a level", x, 0, 1, 2, 3, 4);
        dueShape("over a level: three keys for nine buckets", x, 3, 1, 3, 9, 51);
        removeAll("over a level", x, 5);
        dueShape("over a level: two keys", x, 2, 1, 2, 8, 52);
        removeAll("over a level", x, 6);
        dueShape("over a level: one key", x, 1, 1, 1, 7, 53);
        removeAll("over a level", x, 7);
        dueShape("over a level: the round's start", x, 0, 1, 0, 6, 54);
        x.put(9, 9);
        removeAll("over a level", x, 9);
        dueShape("over a level: the round before", x, 0, 0, 2, 5, 55);
    }

    private static void removeJoinsOnceOnly() {
        PointerBuckets x = new PointerBuckets(1, 1, 100, 100);
        for (int key = 0; key < 6; key++) {
            x.put(key, key);
        }
        due("once only: before", x.buckets(), 7);
        removeAll("once only", x, 5, 4, 3, 2);
        due("once only: two keys", x.buckets(), 7);
        removeAll("once only", x, 1);
        due("once only: one key", x.buckets(), 6);
        removeAll("once only", x, 0);
        due("once only: no key", x.buckets(), 5);
    }

    private static void removeKeepsTheBase() {
        PointerBuckets x = new PointerBuckets(4, 8, 40, 20);
        putAll("base", x, PointerBuckets.NEW, 5);
        removeAll("base", x, 5);
        dueShape("promise 5: never below base", x, 0, 0, 0, 4, 36);
    }

    private static void removeOfNoneChangesNothing() {
        PointerBuckets x = new PointerBuckets(1, 1, 100, 100);
        due("promise 5: of a new one", x.remove(0), false);
        for (int key = 0; key < 6; key++) {
            x.put(key, key);
        }
        for (int key = 0; key < 6; key++) {
            x.remove(key);
        }
        due("promise 5: still sparse", 4 * x.size() < x.buckets() && x.buckets() > 1, true);
        int before = x.buckets();
        due("promise 5: of none", x.remove(0), false);
        due("promise 5: of none joins nothing", x.buckets(), before);
    }

    private static void bucketOfKeys() {
        PointerBuckets x = new PointerBuckets(3, 1, 100, 5);
        due("promise 10: 0", x.bucketOf(0), 0);
        due("promise 10: 7", x.bucketOf(7), 1);
        due("promise 10: without its sign bit", x.bucketOf(-1), Integer.MAX_VALUE % 3);
        due("promise 10: the sign bit alone", x.bucketOf(Integer.MIN_VALUE), 0);
        due("promise 10: -2147483643", x.bucketOf(Integer.MIN_VALUE + 5), 2);
        putAll("promise 10", x, PointerBuckets.NEW, 0, 1, 2, 3);
        dueShape("promise 10", x, 4, 0, 2, 5, 95);
        int[] buckets = {0, 1, 2, 3, 4, 2};
        for (int key = 0; key < 24; key++) {
            due("promise 10: bucketOf(" + key + ")", x.bucketOf(key), buckets[key % 6]);
            due("promise 10: with its sign bit", x.bucketOf(key | Integer.MIN_VALUE), buckets[key % 6]);
        }
        due("promise 10: not there still", x.has(5), false);
    }

    private static void pagesOfBuckets() {
        PointerBuckets x = new PointerBuckets(2, 3, 20, 2);
        int[] pages = {1, 1, 1, 2, 2, 2, 3};
        due("promise 11: empty", x.pages(1), 1);
        for (int i = 0; i < pages.length; i++) {
            x.put(2 * i + 1, 0);
            due("promise 11: " + (i + 1) + " keys", x.pages(1), pages[i]);
            due("promise 11: the other", x.pages(0), 1);
            due("promise 12: " + (i + 1) + " keys", x.free(), 19 - pages[i]);
        }
        removeAll("promise 11", x, 13);
        due("promise 11: a page goes", x.pages(1), 2);
        due("promise 12: a page comes back", x.free(), 17);
        for (int none : new int[] {2, 3, -1, 200, Integer.MAX_VALUE, Integer.MIN_VALUE}) {
            due("promise 11: pages(" + none + ")", x.pages(none), PointerBuckets.BAD);
        }
    }

    private static void keysOfRows() {
        PointerBuckets x = new PointerBuckets(2, 2, 20, 2);
        putAll("promise 13", x, PointerBuckets.NEW, 9, -1, 4, 3, Integer.MIN_VALUE);
        dueRow("promise 13", x, 0, 4, Integer.MIN_VALUE);
        dueRow("promise 13: -1 may be a key", x, 1, 9, -1, 3);
        for (int none : new int[] {-1, 3, 4, 512, Integer.MAX_VALUE, Integer.MIN_VALUE}) {
            due("promise 13: key(1, " + none + ")", x.key(1, none), PointerBuckets.BAD);
        }
        for (int none : new int[] {-1, 2, 3, 200, Integer.MAX_VALUE, Integer.MIN_VALUE}) {
            due("promise 13: key(" + none + ", 0)", x.key(none, 0), PointerBuckets.BAD);
        }
    }

    private static void clearIsAsAtFirst() {
        PointerBuckets x = new PointerBuckets(2, 1, 20, 7);
        x.clear();
        dueShape("promise 14: of a new one", x, 0, 0, 0, 2, 18);
        putAll("promise 14", x, PointerBuckets.NEW, 0, 1, 2, 3, 4, 5, 6);
        dueShape("promise 14: before", x, 7, 1, 3, 7, 13);
        x.clear();
        dueShape("promise 14: behind", x, 0, 0, 0, 2, 18);
        for (int key = 0; key < 7; key++) {
            due("promise 14: gone", x.has(key), false);
            due("promise 14: no value", x.get(key), 0);
        }
        dueRow("promise 14: no row", x, 0);
        due("promise 14: no third bucket", x.pages(2), PointerBuckets.BAD);
        due("promise 14: bucketOf", x.bucketOf(6), 0);
        putAll("promise 14: the same again", x, PointerBuckets.NEW, 0, 1, 2, 3, 4, 5, 6);
        dueShape("promise 14: the same again", x, 7, 1, 3, 7, 13);
    }

    private static void objectsAreApart() {
        PointerBuckets x = new PointerBuckets(2, 1, 20, 7);
        PointerBuckets y = new PointerBuckets(3, 2, 30, 9);
        putAll("apart, x", x, PointerBuckets.NEW, 0, 1, 2);
        dueShape("promise 1: y is as at first", y, 0, 0, 0, 3, 27);
        due("promise 1: x's key is not in y", y.has(1), false);
        putAll("apart, y", y, PointerBuckets.NEW, 1, 4);
        due("apart: another value in y", y.put(1, 99), PointerBuckets.OLD);
        due("promise 1: x's value is left alone", x.get(1), 2);
        y.clear();
        dueShape("promise 14: x is left alone", x, 3, 1, 0, 4, 16);
        dueShape("promise 1: made behind both", new PointerBuckets(2, 1, 20, 7), 0, 0, 0, 2, 18);
    }

    private static void theLastCallIsAnswered() {
        PointerBuckets x = new PointerBuckets(8, 8, 300, 200);
        for (int key = 0; key < 510; key++) {
            due("call " + (key + 1) + ": put", x.put(key, -key), PointerBuckets.NEW);
        }
        due("call 511: remove", x.remove(255), true);
        due("call 512: get", x.get(509), -509);
    }

    /** The example of README.md, line by line. */
    private static void readmeExample() {
        PointerBuckets map = new PointerBuckets(2, 4, 40, 20);
        due("README: put(5, 50)", map.put(5, 50), PointerBuckets.NEW);
        due("README: put(5, 51)", map.put(5, 51), PointerBuckets.OLD);
        due("README: get(5)", map.get(5), 51);
        due("README: get(6)", map.get(6), 0);
        due("README: has(5)", map.has(5), true);
        due("README: size()", map.size(), 1);
        due("README: bucketOf(5)", map.bucketOf(5), 1);
        due("README: key(1, 0)", map.key(1, 0), 5);
        due("README: key(1, 1)", map.key(1, 1), PointerBuckets.BAD);
        due("README: pages(1)", map.pages(1), 1);
        due("README: free()", map.free(), 38);
        due("README: remove(5)", map.remove(5), true);
        due("README: remove(5) again", map.remove(5), false);
        map.clear();
        dueShape("README: clear()", map, 0, 0, 0, 2, 38);
    }
}
