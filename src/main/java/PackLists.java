import java.util.Arrays;

/** Packs bottles into boxes by rules that come in as a text; README.md tells how it is used. */
public final class PackLists {
    public static final int NONE = -1;

    private static final int CLASSES = 9;
    private static final int LANGUAGES = 4;
    private static final int STEPS = 10;
    private static final int RESULTS = 4;
    private static final int MOST_BYTES = 1500;
    private static final int MOST_DIGITS = 6;
    private static final int MOST_NUMBERS = 3;
    private static final int MOST_BOTTLES = 8;
    private static final int MOST_BOXES = 5;
    private static final int MOST_MARKS = 6;
    private static final int MOST_NOTES = 8;
    private static final int MOST_BOTTLE_GRAMS = 100000;
    private static final int MOST_BOX_GRAMS = 1000000;
    private static final int MOST_KIND = 3;
    private static final int MOST_REASON = 9;
    private static final int BLANK = 32;
    private static final int LINE_END = 10;
    private static final int NO_TEST = -100;
    /** A line has a class, grams and points of seven digits at most, two blanks and an end. */
    private static final int MOST_PAPER = CLASSES * 18;

    private static final Kind[] KINDS = Kind.values();

    private final Text text;
    private final Stock stock;
    private final Packer packer;
    private final Load load;
    /** The rules now, and those that a text is read into: they change places when it was good. */
    private Rules now;
    private Rules draft;
    /** Whether nothing was told since a packing was found. */
    private boolean untouched;

    public PackLists() {
        text = new Text();
        stock = new Stock();
        packer = new Packer();
        load = new Load();
        now = new Rules();
        draft = new Rules();
        untouched = false;
    }

    public boolean unit(int u) {
        if (!text.takeByte(u)) {
            return false;
        }
        untouched = false;
        return true;
    }

    public int rules() {
        untouched = false;
        draft.forget();
        int answer = text.read(draft);
        text.clear();
        if (answer >= 0) {
            Rules old = now;
            now = draft;
            draft = old;
        }
        return answer;
    }

    public int bottle(int cls, long grams) {
        boolean fine = (cls == NONE || isClass(cls)) && grams >= 1 && grams <= MOST_BOTTLE_GRAMS;
        if (!fine || stock.bottles >= MOST_BOTTLES) {
            return NONE;
        }
        untouched = false;
        return stock.addBottle(cls, (int) grams);
    }

    /** No answer depends on a box's kind, so it is looked at and not held. */
    public int box(int kind, long grams, int n) {
        boolean fine = kind >= 0 && kind <= MOST_KIND && isBoxGrams(grams) && n >= 0 && n <= MOST_BOTTLES;
        if (!fine || stock.boxes >= MOST_BOXES) {
            return NONE;
        }
        untouched = false;
        return stock.addBox((int) grams, n);
    }

    public boolean absorber(int box, long grams) {
        if (!stock.hasBox(box) || !isBoxGrams(grams)) {
            return false;
        }
        untouched = false;
        stock.absorbers[box] = (int) grams;
        return true;
    }

    public int pack(long nodes) {
        int needs = packer.search(stock, now, nodes);
        if (needs != NONE) {
            untouched = true;
        }
        return needs;
    }

    public int boxOf(int bottle) {
        return stock.hasBottle(bottle) ? packer.boxes[bottle] : NONE;
    }

    public boolean proved() {
        return packer.found && untouched;
    }

    public boolean kept() {
        return packer.stillHolds(stock, now);
    }

    public long points() {
        load.gather(stock, packer.boxes);
        return load.pointsOfAll(now);
    }

    public boolean exempt() {
        load.gather(stock, packer.boxes);
        return load.isFree(now);
    }

    public int name(int k) {
        load.gather(stock, packer.boxes);
        load.sort(now);
        return k >= 0 && k < load.count ? load.inOrder[k] : NONE;
    }

    public int order(int k) {
        load.gather(stock, packer.boxes);
        load.sort(now);
        return load.bottleAt(stock, packer.boxes, k);
    }

    public int paper(int i) {
        load.gather(stock, packer.boxes);
        load.sort(now);
        load.write(now);
        return i >= 0 && i < load.written ? load.sheet[i] : NONE;
    }

    public int mark(int cls) {
        if (!isClass(cls)) {
            return NONE;
        }
        load.gather(stock, packer.boxes);
        int grams = load.gramsOf[cls];
        return grams > 0 ? now.markSize(cls, grams) : 0;
    }

    public int tunnel() {
        load.gather(stock, packer.boxes);
        return load.isFree(now) ? 0 : load.greatestCode(now);
    }

    public int note(int language, int i) {
        return now.noteAt(language, i);
    }

    public int refuse(int bottle, int reason) {
        boolean fine = stock.hasBottle(bottle) && reason >= 1 && reason <= MOST_REASON;
        if (!fine || stock.isRefused(bottle)) {
            return NONE;
        }
        untouched = false;
        return stock.turnAway(bottle, reason);
    }

    public int refused(int k) {
        if (k < 0 || k >= stock.turnedAway) {
            return NONE;
        }
        int bottle = stock.awayInOrder[k];
        return 10 * bottle + stock.reasons[bottle];
    }

    public int test(int bottle, int step, int result) {
        if (!stock.hasBottle(bottle) || stock.classes[bottle] != NONE || stock.steps[bottle] != step) {
            return NO_TEST;
        }
        int told = now.outcomeOf(step, result);
        if (told == NONE) {
            return NO_TEST;
        }
        untouched = false;
        return stock.learn(bottle, told);
    }

    private static boolean isClass(int cls) {
        return cls >= 0 && cls < CLASSES;
    }

    private static boolean isBoxGrams(long grams) {
        return grams >= 0 && grams <= MOST_BOX_GRAMS;
    }

    /** The kinds of sentences: the word, how many numbers follow it, and the most that each may be. */
    private enum Kind {
        APART("apart", 2, 8, 8, 0),
        POINTS("points", 2, 8, 1000, 0),
        RANK("rank", 2, 8, 99, 0),
        FREE("free", 1, 999999, 0, 0),
        MARK("mark", 3, 8, 999999, 9),
        TUNNEL("tunnel", 2, 8, 5, 0),
        NOTE("note", 2, 3, 999999, 0),
        STEP("step", 3, 9, 3, 9),
        CLASS("class", 3, 9, 3, 8);

        final String word;
        final int numbers;
        final int mostFirst;
        final int mostSecond;
        final int mostThird;

        Kind(String word, int numbers, int mostFirst, int mostSecond, int mostThird) {
            this.word = word;
            this.numbers = numbers;
            this.mostFirst = mostFirst;
            this.mostSecond = mostSecond;
            this.mostThird = mostThird;
        }

        int most(int place) {
            if (place == 0) {
                return mostFirst;
            }
            return place == 1 ? mostSecond : mostThird;
        }

        /** A mark's size and a tunnel's code are the only numbers that may not be 0. */
        int least(int place) {
            boolean size = this == MARK && place == 2;
            boolean code = this == TUNNEL && place == 1;
            return size || code ? 1 : 0;
        }
    }

    /** What one text says. */
    private static final class Rules {
        /** For each class a bit for each class that keeps apart from it. */
        final int[] apart = new int[CLASSES];
        final int[] perThousand = new int[CLASSES];
        final int[] ranks = new int[CLASSES];
        final int[] codes = new int[CLASSES];
        final int[] markCounts = new int[CLASSES];
        final int[] markGrams = new int[CLASSES * MOST_MARKS];
        final int[] markSizes = new int[CLASSES * MOST_MARKS];
        final int[] noteCounts = new int[LANGUAGES];
        final int[] notes = new int[LANGUAGES * MOST_NOTES];
        /** NONE, or a step, or STEPS more than a class. */
        final int[] outcomes = new int[STEPS * RESULTS];
        int free;

        Rules() {
            Arrays.fill(outcomes, NONE);
        }

        /** Marks and notes are not wiped: their counts tell which of them are there. */
        void forget() {
            Arrays.fill(apart, 0);
            Arrays.fill(perThousand, 0);
            Arrays.fill(ranks, 0);
            Arrays.fill(codes, 0);
            Arrays.fill(markCounts, 0);
            Arrays.fill(noteCounts, 0);
            Arrays.fill(outcomes, NONE);
            free = 0;
        }

        /** The numbers have been looked at by the kind's limits, and there is room for them. */
        void learn(Kind kind, int first, int second, int third) {
            switch (kind) {
                case APART:
                    apart[first] |= 1 << second;
                    apart[second] |= 1 << first;
                    break;
                case POINTS:
                    perThousand[first] = second;
                    break;
                case RANK:
                    ranks[first] = second;
                    break;
                case FREE:
                    free = first;
                    break;
                case MARK:
                    setMark(first, second, third);
                    break;
                case TUNNEL:
                    codes[first] = second;
                    break;
                case NOTE:
                    addNote(first, second);
                    break;
                case STEP:
                    outcomes[first * RESULTS + second] = third;
                    break;
                case CLASS:
                    outcomes[first * RESULTS + second] = STEPS + third;
                    break;
                default:
                    break;
            }
        }

        boolean hasRoomForNote(int language) {
            return noteCounts[language] < MOST_NOTES;
        }

        boolean hasRoomForNotes() {
            for (int l = 0; l < LANGUAGES; l++) {
                if (hasRoomForNote(l)) {
                    return true;
                }
            }
            return false;
        }

        boolean hasRoomForMark(int cls, int grams) {
            return placeOfMark(cls, grams) < MOST_MARKS;
        }

        /** Where the class's mark from these grams on stands, or would stand as a new one. */
        private int placeOfMark(int cls, int grams) {
            for (int i = 0; i < markCounts[cls]; i++) {
                if (markGrams[cls * MOST_MARKS + i] == grams) {
                    return i;
                }
            }
            return markCounts[cls];
        }

        private void setMark(int cls, int grams, int size) {
            int place = placeOfMark(cls, grams);
            if (place >= MOST_MARKS) {
                return;
            }
            markGrams[cls * MOST_MARKS + place] = grams;
            markSizes[cls * MOST_MARKS + place] = size;
            markCounts[cls] = Math.max(markCounts[cls], place + 1);
        }

        private void addNote(int language, int number) {
            if (!hasRoomForNote(language)) {
                return;
            }
            notes[language * MOST_NOTES + noteCounts[language]] = number;
            noteCounts[language]++;
        }

        int markSize(int cls, int grams) {
            for (int i = markCounts[cls] - 1; i >= 0; i--) {
                if (markGrams[cls * MOST_MARKS + i] <= grams) {
                    return markSizes[cls * MOST_MARKS + i];
                }
            }
            return 0;
        }

        int noteAt(int language, int i) {
            if (language < 0 || language >= LANGUAGES || i < 0 || i >= noteCounts[language]) {
                return NONE;
            }
            return notes[language * MOST_NOTES + i];
        }

        int outcomeOf(int step, int result) {
            if (step < 0 || step >= STEPS || result < 0 || result >= RESULTS) {
                return NONE;
            }
            return outcomes[step * RESULTS + result];
        }
    }

    /** The bytes that came in, and how far the sentence that is being read has come. */
    private static final class Text {
        final int[] bytes = new int[MOST_BYTES];
        int length;
        final int[] numbers = new int[MOST_NUMBERS];
        int got;
        /** The kind of the sentence that waits for numbers; null when a new one may begin. */
        Kind open;
        int sentences;

        boolean takeByte(int u) {
            if (u < 0 || u > 255 || length >= MOST_BYTES) {
                return false;
            }
            bytes[length] = u;
            length++;
            return true;
        }

        void clear() {
            length = 0;
            open = null;
            got = 0;
            sentences = 0;
        }

        int read(Rules rules) {
            int words = 0;
            int start = NONE;
            for (int i = 0; i <= length; i++) {
                boolean inside = i < length && bytes[i] != BLANK && bytes[i] != LINE_END;
                if (inside && start == NONE) {
                    start = i;
                }
                if (!inside && start != NONE) {
                    if (!takeWord(start, i, rules)) {
                        return -1 - words;
                    }
                    words++;
                    start = NONE;
                }
            }
            return open == null ? sentences : -1 - words;
        }

        private boolean takeWord(int start, int end, Rules rules) {
            if (open == null) {
                open = kindOf(start, end);
                got = 0;
                return open != null && canBegin(rules);
            }
            return takeNumber(numberOf(start, end), rules);
        }

        /** A mark may always begin: a full class can be told one of its own grams again. */
        private boolean canBegin(Rules rules) {
            return open != Kind.NOTE || rules.hasRoomForNotes();
        }

        private boolean takeNumber(int number, Rules rules) {
            if (got >= MOST_NUMBERS || !canStand(number, rules)) {
                return false;
            }
            numbers[got] = number;
            got++;
            if (got >= open.numbers) {
                rules.learn(open, numbers[0], numbers[1], numbers[2]);
                open = null;
                sentences++;
            }
            return true;
        }

        /** A full language or class is refused at the first word with which nothing can help any more. */
        private boolean canStand(int number, Rules rules) {
            if (number < open.least(got) || number > open.most(got)) {
                return false;
            }
            if (open == Kind.NOTE && got == 0) {
                return rules.hasRoomForNote(number);
            }
            if (open == Kind.MARK && got == 1) {
                return rules.hasRoomForMark(numbers[0], number);
            }
            return true;
        }

        private Kind kindOf(int start, int end) {
            for (int k = 0; k < KINDS.length; k++) {
                if (isWord(KINDS[k].word, start, end)) {
                    return KINDS[k];
                }
            }
            return null;
        }

        private boolean isWord(String word, int start, int end) {
            if (word.length() != end - start) {
                return false;
            }
            for (int i = 0; i < word.length(); i++) {
                if (bytes[start + i] != word.charAt(i)) {
                    return false;
                }
            }
            return true;
        }

        /** NONE, which is below every number's least, when the word is no number. */
        private int numberOf(int start, int end) {
            if (end - start > MOST_DIGITS) {
                return NONE;
            }
            int number = 0;
            for (int i = start; i < end; i++) {
                int digit = bytes[i] - '0';
                if (digit < 0 || digit > 9) {
                    return NONE;
                }
                number = 10 * number + digit;
            }
            return number;
        }
    }

    /** The bottles and boxes that were told. */
    private static final class Stock {
        final int[] classes = new int[MOST_BOTTLES];
        final int[] grams = new int[MOST_BOTTLES];
        final int[] steps = new int[MOST_BOTTLES];
        /** 0 for a bottle that was not refused. */
        final int[] reasons = new int[MOST_BOTTLES];
        final int[] awayInOrder = new int[MOST_BOTTLES];
        int bottles;
        int turnedAway;
        final int[] boxGrams = new int[MOST_BOXES];
        final int[] boxBottles = new int[MOST_BOXES];
        final int[] absorbers = new int[MOST_BOXES];
        int boxes;

        boolean hasBottle(int bottle) {
            return bottle >= 0 && bottle < bottles;
        }

        boolean hasBox(int box) {
            return box >= 0 && box < boxes;
        }

        boolean isRefused(int bottle) {
            return reasons[bottle] != 0;
        }

        boolean isToBePacked(int bottle) {
            return !isRefused(bottle) && classes[bottle] != NONE;
        }

        int addBottle(int cls, int weight) {
            classes[bottles] = cls;
            grams[bottles] = weight;
            bottles++;
            return bottles - 1;
        }

        int addBox(int weight, int n) {
            boxGrams[boxes] = weight;
            boxBottles[boxes] = n;
            boxes++;
            return boxes - 1;
        }

        /** No bottle comes here twice, so there is room for each. */
        int turnAway(int bottle, int reason) {
            reasons[bottle] = reason;
            awayInOrder[turnedAway] = bottle;
            turnedAway++;
            return turnedAway;
        }

        /** Takes what Rules.outcomes holds, other than NONE. */
        int learn(int bottle, int outcome) {
            if (outcome < STEPS) {
                steps[bottle] = outcome;
                return outcome;
            }
            classes[bottle] = outcome - STEPS;
            return -1 - classes[bottle];
        }
    }

    /** Looks for the best packing, and holds the one that was found last. */
    private static final class Packer {
        /** What stands in each box while a packing is laid out. */
        final int[] gramsIn = new int[MOST_BOXES];
        final int[] bottlesIn = new int[MOST_BOXES];
        final int[] classesIn = new int[MOST_BOXES];
        /** The bottles that are to be packed, in their order. */
        final int[] queue = new int[MOST_BOTTLES];
        int waiting;
        final int[] tried = new int[MOST_BOTTLES];
        final int[] best = new int[MOST_BOTTLES];
        int fewest;
        final int[] boxes = new int[MOST_BOTTLES];
        boolean found;

        Packer() {
            Arrays.fill(boxes, NONE);
        }

        int search(Stock stock, Rules rules, long nodes) {
            lineUp(stock);
            if (countWays(stock.boxes) > nodes) {
                return NONE;
            }
            emptyBoxes();
            fewest = MOST_BOXES + 1;
            if (eachFitsAlone(stock, rules)) {
                place(this, stock, rules, 0, 0);
            }
            if (fewest > MOST_BOXES) {
                return NONE;
            }
            System.arraycopy(best, 0, boxes, 0, MOST_BOTTLES);
            found = true;
            return fewest;
        }

        boolean stillHolds(Stock stock, Rules rules) {
            if (!found) {
                return false;
            }
            emptyBoxes();
            for (int b = 0; b < stock.bottles; b++) {
                int x = boxes[b];
                if (stock.isToBePacked(b) != (x != NONE)) {
                    return false;
                }
                if (x != NONE) {
                    if (!fits(stock, rules, b, x)) {
                        return false;
                    }
                    putIn(stock, b, x);
                }
            }
            return true;
        }

        private void lineUp(Stock stock) {
            waiting = 0;
            Arrays.fill(tried, NONE);
            for (int b = 0; b < stock.bottles; b++) {
                if (stock.isToBePacked(b)) {
                    queue[waiting] = b;
                    waiting++;
                }
            }
        }

        private long countWays(int boxCount) {
            long ways = 1;
            for (int i = 0; i < waiting; i++) {
                ways *= boxCount;
            }
            return ways;
        }

        private void emptyBoxes() {
            Arrays.fill(gramsIn, 0);
            Arrays.fill(bottlesIn, 0);
            Arrays.fill(classesIn, 0);
        }

        /** One that fits nowhere is seen here before all ways of those in front of it are tried. */
        private boolean eachFitsAlone(Stock stock, Rules rules) {
            for (int i = 0; i < waiting; i++) {
                boolean fitsOne = false;
                for (int x = 0; x < stock.boxes; x++) {
                    fitsOne = fitsOne || fits(stock, rules, queue[i], x);
                }
                if (!fitsOne) {
                    return false;
                }
            }
            return true;
        }

        /**
         * Lays the queue out from the given depth on, lesser boxes first. As only fewer boxes than
         * before are better, the first of all packings with the fewest boxes is the one that stays.
         */
        private static void place(Packer p, Stock stock, Rules rules, int depth, int used) {
            if (depth >= p.waiting) {
                p.fewest = used;
                System.arraycopy(p.tried, 0, p.best, 0, MOST_BOTTLES);
                return;
            }
            int bottle = p.queue[depth];
            for (int x = 0; x < stock.boxes; x++) {
                int needs = p.bottlesIn[x] == 0 ? used + 1 : used;
                if (needs < p.fewest && p.fits(stock, rules, bottle, x)) {
                    int classesBefore = p.classesIn[x];
                    p.putIn(stock, bottle, x);
                    place(p, stock, rules, depth + 1, needs);
                    p.takeOut(stock, bottle, x, classesBefore);
                }
            }
        }

        private boolean fits(Stock stock, Rules rules, int bottle, int x) {
            int weight = stock.absorbers[x] + gramsIn[x] + stock.grams[bottle];
            return bottlesIn[x] < stock.boxBottles[x]
                && weight <= stock.boxGrams[x]
                && (classesIn[x] & rules.apart[stock.classes[bottle]]) == 0;
        }

        private void putIn(Stock stock, int bottle, int x) {
            gramsIn[x] += stock.grams[bottle];
            bottlesIn[x]++;
            classesIn[x] |= 1 << stock.classes[bottle];
            tried[bottle] = x;
        }

        private void takeOut(Stock stock, int bottle, int x, int classesBefore) {
            gramsIn[x] -= stock.grams[bottle];
            bottlesIn[x]--;
            classesIn[x] = classesBefore;
        }
    }

    /** What the packing that was found holds, gathered anew for each call as rules may be others then. */
    private static final class Load {
        /** A bottle has grams, so a class of which there are none is not in the load. */
        final int[] gramsOf = new int[CLASSES];
        final int[] inOrder = new int[CLASSES];
        int count;
        final int[] sheet = new int[MOST_PAPER];
        int written;

        void gather(Stock stock, int[] boxes) {
            Arrays.fill(gramsOf, 0);
            for (int b = 0; b < stock.bottles; b++) {
                if (boxes[b] != NONE) {
                    gramsOf[stock.classes[b]] += stock.grams[b];
                }
            }
        }

        void sort(Rules rules) {
            count = 0;
            for (int c = 0; c < CLASSES; c++) {
                if (gramsOf[c] > 0) {
                    insert(rules, c);
                }
            }
        }

        /** Classes come here by their numbers, so one goes behind those of the same rank. */
        private void insert(Rules rules, int cls) {
            int at = count;
            while (at > 0 && rules.ranks[inOrder[at - 1]] > rules.ranks[cls]) {
                inOrder[at] = inOrder[at - 1];
                at--;
            }
            inOrder[at] = cls;
            count++;
        }

        private int pointsOfClass(Rules rules, int cls) {
            return (gramsOf[cls] + 999) / 1000 * rules.perThousand[cls];
        }

        long pointsOfAll(Rules rules) {
            long sum = 0;
            for (int c = 0; c < CLASSES; c++) {
                sum += pointsOfClass(rules, c);
            }
            return sum;
        }

        boolean isFree(Rules rules) {
            return pointsOfAll(rules) <= rules.free;
        }

        int greatestCode(Rules rules) {
            int greatest = 0;
            for (int c = 0; c < CLASSES; c++) {
                if (gramsOf[c] > 0) {
                    greatest = Math.max(greatest, rules.codes[c]);
                }
            }
            return greatest;
        }

        int bottleAt(Stock stock, int[] boxes, int k) {
            int before = 0;
            for (int i = 0; i < count; i++) {
                for (int b = 0; b < stock.bottles; b++) {
                    if (boxes[b] != NONE && stock.classes[b] == inOrder[i]) {
                        if (before == k) {
                            return b;
                        }
                        before++;
                    }
                }
            }
            return NONE;
        }

        void write(Rules rules) {
            written = 0;
            for (int i = 0; i < count; i++) {
                writeDecimals(inOrder[i]);
                writeByte(BLANK);
                writeDecimals(gramsOf[inOrder[i]]);
                writeByte(BLANK);
                writeDecimals(pointsOfClass(rules, inOrder[i]));
                writeByte(LINE_END);
            }
        }

        private void writeDecimals(int value) {
            int weight = 1;
            for (int i = 0; i < 9 && value / weight >= 10; i++) {
                weight *= 10;
            }
            for (; weight > 0; weight /= 10) {
                writeByte('0' + value / weight % 10);
            }
        }

        private void writeByte(int u) {
            if (written < MOST_PAPER) {
                sheet[written] = u;
                written++;
            }
        }
    }
}
