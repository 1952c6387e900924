import java.util.ArrayList;
import java.util.List;
import java.util.Random;

/**
 * Mixed runs of calls, each answer compared with that of a plain second program that keeps one list
 * for each bucket and moves the keys as the document's Terms tell. Each run keeps to 512 calls.
 */
public final class PointerBucketsAgainstModel {
    private static final int RUNS = 4000;
    private static final int CALLS = 512;
    private static final int MOST_TOLD = 40;

    private static int wrong = 0;
    private static int newOnes = 0;
    private static int oldOnes = 0;
    private static int withoutRoom = 0;
    private static int partings = 0;
    private static int joinings = 0;
    private static int joiningsOverALevel = 0;

    /** The document's words, one list of {key, value} for each bucket. */
    private static final class Model {
        final int base;
        final int cap;
        final int pages;
        final int most;
        List<List<int[]>> rows = new ArrayList<>();
        int level;
        int pointer;

        Model(int base, int cap, int pages, int buckets) {
            this.base = base < 1 ? 1 : base > 8 ? 8 : base;
            this.cap = cap < 1 ? 1 : cap > 8 ? 8 : cap;
            this.pages = pages < 8 ? 8 : pages > 300 ? 300 : pages;
            this.most = buckets < this.base ? this.base : buckets > 200 ? 200 : buckets;
            clear();
        }

        void clear() {
            rows = new ArrayList<>();
            for (int b = 0; b < base; b++) {
                rows.add(new ArrayList<>());
            }
            level = 0;
            pointer = 0;
        }

        int round() {
            int round = base;
            for (int i = 0; i < level; i++) {
                round *= 2;
            }
            return round;
        }

        int bucketUnder(int key, int pointer) {
            long h = key < 0 ? key + (1L << 31) : key;
            long bucket = h % round();
            return (int) (bucket < pointer ? h % (2 * round()) : bucket);
        }

        int bucketOf(int key) {
            return bucketUnder(key, pointer);
        }

        int[] entry(int key) {
            for (int[] entry : rows.get(bucketOf(key))) {
                if (entry[0] == key) {
                    return entry;
                }
            }
            return null;
        }

        int size() {
            int size = 0;
            for (List<int[]> row : rows) {
                size += row.size();
            }
            return size;
        }

        int pagesOf(int bucket) {
            if (bucket < 0 || bucket >= rows.size()) {
                return -1;
            }
            int pages = 1;
            while (pages * cap < rows.get(bucket).size()) {
                pages++;
            }
            return pages;
        }

        int free() {
            int free = pages;
            for (int b = 0; b < rows.size(); b++) {
                free -= pagesOf(b);
            }
            return free;
        }

        int key(int bucket, int k) {
            if (bucket < 0 || bucket >= rows.size() || k < 0 || k >= rows.get(bucket).size()) {
                return -1;
            }
            return rows.get(bucket).get(k)[0];
        }

        void part() {
            List<int[]> stay = new ArrayList<>();
            List<int[]> go = new ArrayList<>();
            for (int[] entry : rows.get(pointer)) {
                (bucketUnder(entry[0], pointer + 1) == pointer ? stay : go).add(entry);
            }
            rows.set(pointer, stay);
            rows.add(go);
            pointer++;
            if (pointer == round()) {
                pointer = 0;
                level++;
            }
        }

        void join() {
            joinings++;
            if (pointer > 0) {
                pointer--;
            } else {
                joiningsOverALevel++;
                level--;
                pointer = round() - 1;
            }
            rows.get(pointer).addAll(rows.remove(rows.size() - 1));
        }

        int put(int key, int value) {
            int[] entry = entry(key);
            if (entry != null) {
                entry[1] = value;
                oldOnes++;
                return 1;
            }
            List<List<int[]>> rowsBefore = new ArrayList<>();
            for (List<int[]> row : rows) {
                rowsBefore.add(new ArrayList<>(row));
            }
            int levelBefore = level;
            int pointerBefore = pointer;
            rows.get(bucketOf(key)).add(new int[] {key, value});
            if (4 * size() > 3 * cap * rows.size() && rows.size() < most) {
                part();
            }
            if (free() < 0) {
                rows = rowsBefore;
                level = levelBefore;
                pointer = pointerBefore;
                withoutRoom++;
                return 2;
            }
            partings += rows.size() - rowsBefore.size();
            newOnes++;
            return 0;
        }

        boolean remove(int key) {
            int[] entry = entry(key);
            if (entry == null) {
                return false;
            }
            List<int[]> row = rows.get(bucketOf(key));
            int place = row.indexOf(entry);
            int[] last = row.remove(row.size() - 1);
            if (last != entry) {
                row.set(place, last);
            }
            if (4 * size() < cap * rows.size() && rows.size() > base) {
                join();
            }
            return true;
        }
    }

    /** One run on a new object and a new model, with the calls so far counted. */
    private static final class Run {
        final int number;
        final Random random;
        final PointerBuckets x;
        final Model model;
        final int kindOfKeys;
        final String made;
        int calls;

        Run(int number) {
            this.number = number;
            this.random = new Random(number);
            int base = pick(-1, 10);
            int cap = random.nextInt(3) == 0 ? 1 : pick(-1, 10);
            int pages = random.nextBoolean() ? pick(5, 40) : pick(5, 310);
            int buckets = random.nextBoolean() ? pick(-1, 30) : pick(-1, 210);
            this.made = "(" + base + ", " + cap + ", " + pages + ", " + buckets + ")";
            this.x = new PointerBuckets(base, cap, pages, buckets);
            this.model = new Model(base, cap, pages, buckets);
            this.kindOfKeys = random.nextInt(5);
        }

        int pick(int least, int most) {
            return least + random.nextInt(most - least + 1);
        }

        int anyKey() {
            switch (kindOfKeys) {
                case 0: return pick(-12, 40);
                case 1: return pick(0, 300);
                case 2: return 16 * pick(-40, 40) + random.nextInt(2);
                case 3: return random.nextInt(8) == 0 ? edgeKey() : random.nextInt();
                default: return random.nextInt(12) == 0 ? edgeKey() : pick(-100, 100);
            }
        }

        int edgeKey() {
            int[] edges = {Integer.MIN_VALUE, Integer.MIN_VALUE + 1, -1, 0, 1, Integer.MAX_VALUE - 1, Integer.MAX_VALUE};
            return edges[random.nextInt(edges.length)];
        }

        int keyThere() {
            int bucket = random.nextInt(model.rows.size());
            for (int i = 0; i < model.rows.size(); i++) {
                List<int[]> row = model.rows.get((bucket + i) % model.rows.size());
                if (!row.isEmpty()) {
                    return row.get(random.nextInt(row.size()))[0];
                }
            }
            return anyKey();
        }

        void due(String call, long got, long want) {
            calls++;
            if (got != want) {
                wrong++;
                if (wrong <= MOST_TOLD) {
                    System.out.println("run " + number + made + ", call " + calls + ": " + call
                        + " answered " + got + ", due is " + want);
                }
            }
        }

        void put() {
            int key = random.nextInt(8) == 0 ? keyThere() : anyKey();
            int value = random.nextInt(9) - 1;
            due("put(" + key + ", " + value + ")", x.put(key, value), model.put(key, value));
        }

        void remove() {
            int key = random.nextInt(8) == 0 ? anyKey() : keyThere();
            due("remove(" + key + ")", x.remove(key) ? 1 : 0, model.remove(key) ? 1 : 0);
        }

        void ask() {
            int key = random.nextBoolean() ? anyKey() : keyThere();
            int bucket = pick(-1, model.rows.size());
            int k = pick(-1, model.cap + 1);
            int[] entry = model.entry(key);
            switch (random.nextInt(10)) {
                case 0: due("get(" + key + ")", x.get(key), entry == null ? 0 : entry[1]); break;
                case 1: due("has(" + key + ")", x.has(key) ? 1 : 0, entry == null ? 0 : 1); break;
                case 2: due("size()", x.size(), model.size()); break;
                case 3: due("buckets()", x.buckets(), model.rows.size()); break;
                case 4: due("level()", x.level(), model.level); break;
                case 5: due("pointer()", x.pointer(), model.pointer); break;
                case 6: due("bucketOf(" + key + ")", x.bucketOf(key), model.bucketOf(key)); break;
                case 7: due("pages(" + bucket + ")", x.pages(bucket), model.pagesOf(bucket)); break;
                case 8: due("free()", x.free(), model.free()); break;
                default: due("key(" + bucket + ", " + k + ")", x.key(bucket, k), model.key(bucket, k)); break;
            }
        }

        void mix() {
            int upTo = pick(60, CALLS - 100);
            int phase = pick(20, 200);
            boolean growing = true;
            int left = phase;
            while (calls < upTo) {
                int chance = random.nextInt(100);
                if (chance < 60) {
                    if (growing) put(); else remove();
                } else if (chance < 70) {
                    if (growing) remove(); else put();
                } else {
                    ask();
                }
                if (random.nextInt(400) == 0) {
                    x.clear();
                    model.clear();
                    calls++;
                }
                if (--left == 0) {
                    growing = !growing;
                    left = phase;
                }
            }
        }

        void compareRows() {
            due("size()", x.size(), model.size());
            due("free()", x.free(), model.free());
            int first = random.nextInt(model.rows.size());
            for (int i = 0; i < model.rows.size() && calls < CALLS; i++) {
                int bucket = (first + i) % model.rows.size();
                for (int k = 0; k <= model.rows.get(bucket).size() && calls < CALLS; k++) {
                    due("key(" + bucket + ", " + k + ")", x.key(bucket, k), model.key(bucket, k));
                }
            }
        }
    }

    private static void happened(String what, int times) {
        if (times < 1000) {
            wrong++;
            System.out.println("the runs try too little: " + what + " came only " + times + " times");
        }
    }

    public static void main(String[] args) {
        for (int number = 0; number < RUNS; number++) {
            Run run = new Run(number);
            run.mix();
            run.compareRows();
        }
        happened("NEW", newOnes);
        happened("OLD", oldOnes);
        happened("NO_ROOM", withoutRoom);
        happened("a parting", partings);
        happened("a joining", joinings);
        happened("a joining from pointer 0", joiningsOverALevel);
        System.out.println(wrong == 0 ? "all answers are as due" : wrong + " answers are not as due");
        if (wrong != 0) {
            System.exit(1);
        }
    }
}
