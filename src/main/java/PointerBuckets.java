/**
 * A map from numbers to numbers in buckets that grow and shrink one at a time (linear hashing),
 * with a limit on the pages that all the buckets' rows may take together.
 *
 * All keys stand in one common row, and a bucket's row is those of them that belong to the bucket,
 * in the order of the common row. So a parting moves no key, and can be undone by setting level
 * and pointer back; only a removal and a joining change the order.
 */
public final class PointerBuckets {
    public static final int BAD = -1, NEW = 0, OLD = 1, NO_ROOM = 2;

    private static final int MOST_CALLS = 512;
    private static final int NOWHERE = -1;
    private static final int ALL_BUT_SIGN = 0x7FFFFFFF;

    private final int base;
    private final int cap;
    private final int pageLimit;
    private final int bucketLimit;

    private final int[] keys;
    private final int[] values;
    private int count;

    private int level;
    private int pointer;

    // Holds nothing between calls: it is made once so that no call has to make an array.
    private final int[] rowLengths;

    public PointerBuckets(int base, int cap, int pages, int buckets) {
        this.base = within(base, 1, 8);
        this.cap = within(cap, 1, 8);
        this.pageLimit = within(pages, 8, 300);
        this.bucketLimit = within(buckets, this.base, 200);
        // Each call adds one key at most, so the calls of an object bound its keys as the pages do.
        int mostKeys = Math.min(this.pageLimit * this.cap, MOST_CALLS);
        this.keys = new int[mostKeys];
        this.values = new int[mostKeys];
        this.rowLengths = new int[this.bucketLimit];
    }

    public int put(int key, int value) {
        int place = placeOf(key);
        if (place != NOWHERE) {
            values[place] = value;
            return OLD;
        }
        if (count >= keys.length) {
            return NO_ROOM;
        }
        return putNew(key, value);
    }

    public int get(int key) {
        int place = placeOf(key);
        return place == NOWHERE ? 0 : values[place];
    }

    public boolean has(int key) {
        return placeOf(key) != NOWHERE;
    }

    public boolean remove(int key) {
        int place = placeOf(key);
        if (place == NOWHERE) {
            return false;
        }
        takeOut(place);
        if (isSparse() && buckets() > base) {
            join();
        }
        return true;
    }

    public int size() {
        return count;
    }

    public int buckets() {
        return bucketsAtLevelStart() + pointer;
    }

    public int level() {
        return level;
    }

    public int pointer() {
        return pointer;
    }

    public int bucketOf(int key) {
        int withoutSign = key & ALL_BUT_SIGN;
        int bucket = withoutSign % bucketsAtLevelStart();
        return bucket < pointer ? withoutSign % (2 * bucketsAtLevelStart()) : bucket;
    }

    public int pages(int bucket) {
        if (!isBucket(bucket)) {
            return BAD;
        }
        int length = 0;
        for (int i = 0; i < count; i++) {
            if (bucketOf(keys[i]) == bucket) {
                length++;
            }
        }
        return pagesFor(length);
    }

    public int free() {
        return pageLimit - pagesNeeded();
    }

    public int key(int bucket, int k) {
        if (!isBucket(bucket) || k < 0) {
            return BAD;
        }
        int before = 0;
        for (int i = 0; i < count; i++) {
            if (bucketOf(keys[i]) == bucket) {
                if (before == k) {
                    return keys[i];
                }
                before++;
            }
        }
        return BAD;
    }

    public void clear() {
        count = 0;
        level = 0;
        pointer = 0;
    }

    private static int within(int number, int least, int most) {
        return Math.max(least, Math.min(most, number));
    }

    private int bucketsAtLevelStart() {
        return base << level;
    }

    private boolean isBucket(int bucket) {
        return bucket >= 0 && bucket < buckets();
    }

    private boolean isCrowded() {
        return 4 * count > 3 * cap * buckets();
    }

    private boolean isSparse() {
        return 4 * count < cap * buckets();
    }

    private int placeOf(int key) {
        for (int i = 0; i < count; i++) {
            if (keys[i] == key) {
                return i;
            }
        }
        return NOWHERE;
    }

    private int lastPlaceOfBucket(int bucket) {
        for (int i = count - 1; i >= 0; i--) {
            if (bucketOf(keys[i]) == bucket) {
                return i;
            }
        }
        return NOWHERE;
    }

    // The pages can be counted only behind a parting, so all is done first and undone if too much.
    private int putNew(int key, int value) {
        int levelBefore = level;
        int pointerBefore = pointer;
        keys[count] = key;
        values[count] = value;
        count++;
        if (isCrowded() && buckets() < bucketLimit) {
            part();
        }
        if (pagesNeeded() > pageLimit) {
            count--;
            level = levelBefore;
            pointer = pointerBefore;
            return NO_ROOM;
        }
        return NEW;
    }

    private void part() {
        pointer++;
        if (pointer == bucketsAtLevelStart()) {
            pointer = 0;
            level++;
        }
    }

    private void join() {
        moveBucketToEnd(buckets() - 1);
        if (pointer == 0) {
            level--;
            pointer = bucketsAtLevelStart();
        }
        pointer--;
    }

    private void takeOut(int place) {
        int last = lastPlaceOfBucket(bucketOf(keys[place]));
        if (last == NOWHERE) {
            return;
        }
        keys[place] = keys[last];
        values[place] = values[last];
        moveToEnd(last);
        count--;
    }

    private void moveBucketToEnd(int bucket) {
        int place = 0;
        for (int seen = 0; seen < count; seen++) {
            if (bucketOf(keys[place]) == bucket) {
                moveToEnd(place);
            } else {
                place++;
            }
        }
    }

    private void moveToEnd(int place) {
        int key = keys[place];
        int value = values[place];
        for (int i = place; i < count - 1; i++) {
            keys[i] = keys[i + 1];
            values[i] = values[i + 1];
        }
        keys[count - 1] = key;
        values[count - 1] = value;
    }

    private int pagesFor(int length) {
        return Math.max(1, (length + cap - 1) / cap);
    }

    private int pagesNeeded() {
        int bucketCount = buckets();
        for (int b = 0; b < bucketCount; b++) {
            rowLengths[b] = 0;
        }
        for (int i = 0; i < count; i++) {
            rowLengths[bucketOf(keys[i])]++;
        }
        int pages = 0;
        for (int b = 0; b < bucketCount; b++) {
            pages += pagesFor(rowLengths[b]);
        }
        return pages;
    }
}
