/** A heap of plates that is turned over in parts; ../shared/DOC.md says what each call answers. */
public final class TopTurned {
    private static final int NONE = -9;
    private static final int NOBODY = -1;
    private static final int OTHER = -2;
    private static final int STATE = -3;
    private static final int BELOW = -4;
    private static final int ROOM = -6;

    private static final int MOST_PLATES = 5;
    private static final int MOST_ORDERS = 120;
    private static final int MOST_SIDES = 32;
    private static final int MOST_STATES = 3840;
    private static final int MOST_TURNS = 15;
    private static final int MOST_SIGHTS = 6;
    private static final int MOST_LETTERS = 64;
    private static final int MOST_IN_ROW = 8;
    private static final int MOST_BLIND_TURNS = 3;
    private static final int MOST_RULE_TURNS = 40;
    private static final int MOST_FAR = 20;
    private static final int MOST_BEFORE = 4;
    private static final int MOST_SHUFFLES = 30;
    private static final int NO_PLATE_KEPT = 9;
    private static final int BURNT_CODE = 10;
    private static final int LAWS = 5;
    private static final int WAITERS = 5;
    private static final int ALL_BUT_THE_SIGN = 0x7FFFFFFF;
    /** Far above the some four thousand steps that the dearest search needs. */
    private static final int MOST_STEPS = 1000000;

    private final Told now;
    private final Told trial;
    private final Told kept;
    private boolean imageTaken;
    private final Reader reader;
    private final Space space;
    private final Rules rules;
    private final Chart chart;
    private final Walks walks;
    private final Waiters waiters;
    private final Blind blindfold;
    private final int[] refusals;

    public TopTurned() {
        now = new Told();
        trial = new Told();
        kept = new Told();
        imageTaken = false;
        reader = new Reader(trial);
        space = new Space();
        rules = new Rules(now, space);
        Scratch scratch = new Scratch();
        chart = new Chart(space, rules, scratch);
        walks = new Walks(space, rules, chart, scratch);
        waiters = new Waiters(space, rules, chart);
        blindfold = new Blind(now, space, rules);
        refusals = new int[7];
    }

    public int letter(int c) {
        if (c < 0) {
            return refuse(BELOW);
        }
        if (c > 255 || now.letterCount >= MOST_LETTERS) {
            return refuse(ROOM);
        }
        now.letters[now.letterCount] = c;
        now.letterCount++;
        return now.letterCount;
    }

    public int kitchen() {
        // All of it is tried on a copy, so that with a fault nothing has come.
        trial.takeFrom(now);
        now.letterCount = 0;
        int answer = reader.read();
        if (answer < 0) {
            return answer;
        }
        trial.letterCount = 0;
        now.takeFrom(trial);
        settle();
        return answer;
    }

    public int place(int place, int what) {
        if (place < 0 || place >= now.plates) {
            return refuse(NOBODY);
        }
        int code = now.heap[place];
        switch (what) {
            case 0:
                return code % BURNT_CODE;
            case 1:
                return now.sizes[code % BURNT_CODE];
            case 2:
                return code / BURNT_CODE;
            default:
                return refuse(OTHER);
        }
    }

    public int law(int v) {
        if (v < 0 || v >= LAWS) {
            return refuse(OTHER);
        }
        int was = now.law;
        now.law = v;
        settle();
        return was;
    }

    public int may(int i, int j) {
        int t = space.turnOf(i, j);
        if (t < 0) {
            return refuse(NOBODY);
        }
        return rules.lawful(space.orderOf(now.heap), t) ? 1 : 0;
    }

    public int turn(int i, int j) {
        int t = space.turnOf(i, j);
        if (t < 0) {
            return refuse(NOBODY);
        }
        if (!rules.lawful(space.orderOf(now.heap), t)) {
            return refuse(STATE);
        }
        turnOver(now.heap, i, j);
        int cost = rules.costOf(t);
        now.spent += cost;
        return cost;
    }

    public int inOrder() {
        return rules.arranged(heapState()) ? 1 : 0;
    }

    public int gaps() {
        return rules.gapsOf(heapState());
    }

    public int least() {
        return orNone(chart.leastOf(heapState()));
    }

    public int cheapest() {
        return orNone(chart.priceOf(heapState()));
    }

    public int ways() {
        return chart.waysOf(heapState());
    }

    public int far(int n) {
        if (n < -1) {
            return refuse(BELOW);
        }
        if (n > MOST_FAR) {
            return refuse(ROOM);
        }
        return chart.howManyAt(n);
    }

    public int worst(int place) {
        if (place < -1 || place >= now.plates) {
            return refuse(NOBODY);
        }
        if (now.plates == 0) {
            return refuse(STATE);
        }
        int state = chart.worstState();
        return place < 0 ? chart.leastOf(state) : space.codeAt(state, place);
    }

    public int before(int n) {
        if (n < 0) {
            return refuse(BELOW);
        }
        if (n > MOST_BEFORE) {
            return refuse(ROOM);
        }
        return walks.howManyBehind(heapState(), n);
    }

    public int next(int kind) {
        if (kind < 0 || kind >= WAITERS) {
            return refuse(OTHER);
        }
        int t = waiters.advise(kind, heapState());
        return t < 0 ? NONE : space.told(t);
    }

    public int rule(int kind) {
        if (kind < 0 || kind >= WAITERS) {
            return refuse(OTHER);
        }
        return orNone(waiters.turnsMade(kind, heapState()));
    }

    public int row(int v) {
        if (v < 0) {
            return refuse(BELOW);
        }
        if (v > 99 || now.rowCount >= MOST_IN_ROW) {
            return refuse(ROOM);
        }
        now.row[now.rowCount] = v;
        now.rowCount++;
        return now.rowCount;
    }

    public int path() {
        if (!now.rowIsOrder()) {
            return refuse(STATE);
        }
        now.rowCount = 0;
        return orNone(walks.turnsBetween(heapState(), space.stateOf(now.row)));
    }

    public int judge() {
        int told = now.rowCount;
        now.rowCount = 0;
        int state = heapState();
        for (int k = 0; k < told; k++) {
            int t = space.turnTold(now.row[k]);
            if (t < 0 || !rules.lawful(space.orderIn(state), t)) {
                return k;
            }
            state = space.behind(state, t);
        }
        return rules.arranged(state) ? NONE : told;
    }

    public int blind() {
        if (!blindfold.takesRow()) {
            return refuse(STATE);
        }
        now.rowCount = 0;
        return blindfold.rowArrangesAll() ? 1 : 0;
    }

    public int fewest(int i) {
        if (i < -1) {
            return refuse(BELOW);
        }
        int length = blindfold.shortestRow();
        if (i < 0) {
            return orNone(length);
        }
        return i < length ? space.told(blindfold.turnInRow(i)) : NONE;
    }

    public int match() {
        return walks.matchFrom(heapState());
    }

    public int shuffled(int n, int z) {
        if (n < 0) {
            return refuse(BELOW);
        }
        if (n > MOST_SHUFFLES) {
            return refuse(ROOM);
        }
        return orNone(chart.leastOf(walks.shuffle(heapState(), n, z)));
    }

    public int sights(int i, int what) {
        if (i < 0 || i >= now.sightCount) {
            return refuse(NOBODY);
        }
        switch (what) {
            case 0:
                return now.above[i];
            case 1:
                return now.below[i];
            default:
                return refuse(OTHER);
        }
    }

    public int image() {
        kept.takeFrom(now);
        imageTaken = true;
        return now.plates;
    }

    public int on() {
        if (!imageTaken) {
            return refuse(STATE);
        }
        now.takeFrom(kept);
        settle();
        return now.plates;
    }

    public int count(int what) {
        if (what >= 11 && what <= 16) {
            return refusals[what - 10];
        }
        switch (what) {
            case 0:
                return now.plates;
            case 1:
                return now.sightCount;
            case 2:
                return now.law;
            case 3:
                return now.limit;
            case 4:
                return now.keptPlate;
            case 5:
                return now.burntMatters ? 1 : 0;
            case 6:
                return now.spent;
            case 7:
                return now.rowCount;
            case 8:
                return now.letterCount;
            case 9:
                return rules.howManyLawful(space.orderOf(now.heap));
            default:
                return NONE;
        }
    }

    private int refuse(int number) {
        refusals[-number]++;
        return number;
    }

    /** After a change of what is told: all that was reckoned from it is old. */
    private void settle() {
        space.shape(now.plates);
        rules.settle();
        chart.forget();
    }

    private int heapState() {
        return space.stateOf(now.heap);
    }

    /** Inside, what cannot be is a number below 0; outside it is -9. */
    private static int orNone(int number) {
        return number < 0 ? NONE : number;
    }

    private static int otherSide(int code) {
        return code < BURNT_CODE ? code + BURNT_CODE : code - BURNT_CODE;
    }

    /** The one in the middle meets itself, and is turned once all the same. */
    private static void turnOver(int[] heap, int from, int to) {
        int upper = from;
        int lower = to - 1;
        while (upper <= lower) {
            int code = heap[upper];
            heap[upper] = otherSide(heap[lower]);
            heap[lower] = otherSide(code);
            upper++;
            lower--;
        }
    }

    /** All that is told, the heap and what was paid: just what an image keeps. */
    private static final class Told {
        int plates;
        final int[] sizes = new int[MOST_PLATES];
        /** From the top on: a plate's number, 10 more if its burnt side is up. */
        final int[] heap = new int[MOST_PLATES];
        int law;
        int limit = MOST_PLATES;
        int keptPlate = NO_PLATE_KEPT;
        boolean burntMatters;
        int turnCost = 1;
        int plateCost;
        int sightCount;
        final int[] above = new int[MOST_SIGHTS];
        final int[] below = new int[MOST_SIGHTS];
        int spent;
        final int[] letters = new int[MOST_LETTERS];
        int letterCount;
        final int[] row = new int[MOST_IN_ROW];
        int rowCount;

        void takeFrom(Told other) {
            plates = other.plates;
            law = other.law;
            limit = other.limit;
            keptPlate = other.keptPlate;
            burntMatters = other.burntMatters;
            turnCost = other.turnCost;
            plateCost = other.plateCost;
            sightCount = other.sightCount;
            spent = other.spent;
            letterCount = other.letterCount;
            rowCount = other.rowCount;
            System.arraycopy(other.sizes, 0, sizes, 0, MOST_PLATES);
            System.arraycopy(other.heap, 0, heap, 0, MOST_PLATES);
            System.arraycopy(other.above, 0, above, 0, MOST_SIGHTS);
            System.arraycopy(other.below, 0, below, 0, MOST_SIGHTS);
            System.arraycopy(other.letters, 0, letters, 0, MOST_LETTERS);
            System.arraycopy(other.row, 0, row, 0, MOST_IN_ROW);
        }

        boolean addPlate(int size, boolean burnt) {
            if (size < 1 || size > 9 || plates >= MOST_PLATES) {
                return false;
            }
            sizes[plates] = size;
            heap[plates] = burnt ? plates + BURNT_CODE : plates;
            plates++;
            return true;
        }

        boolean addSight(int upper, int lower) {
            if (upper >= plates || lower >= plates || upper == lower || sightCount >= MOST_SIGHTS) {
                return false;
            }
            above[sightCount] = upper;
            below[sightCount] = lower;
            sightCount++;
            return true;
        }

        boolean rowIsOrder() {
            if (rowCount != plates) {
                return false;
            }
            int seen = 0;
            for (int k = 0; k < rowCount; k++) {
                int plate = row[k] % BURNT_CODE;
                if (row[k] >= 2 * BURNT_CODE || plate >= plates || (seen >> plate & 1) == 1) {
                    return false;
                }
                seen |= 1 << plate;
            }
            return true;
        }

        /** The sides go with the plates, whatever order is thought of: a bit for each plate. */
        int burntPlates() {
            int bits = 0;
            for (int place = 0; place < plates; place++) {
                if (heap[place] >= BURNT_CODE) {
                    bits |= 1 << heap[place] % BURNT_CODE;
                }
            }
            return bits;
        }
    }

    /** Reads the letters that are told, and does what they say to the same Told. */
    private static final class Reader {
        private final Told told;

        Reader(Told told) {
            this.told = told;
        }

        /** How many statements; or the fault, and then the Told is of no use. */
        int read() {
            int misfit = firstMisfit();
            if (misfit >= 0) {
                return -1000 - misfit;
            }
            int statements = 0;
            int at = 0;
            while (at < told.letterCount) {
                if (!obey(at)) {
                    return -2000 - at;
                }
                at += Math.max(1, lengthOf(letterAt(at)));
                statements++;
            }
            return statements;
        }

        /** The first place with which no kitchen can go on, -1 if there is none. */
        private int firstMisfit() {
            int start = 0;
            do {
                int length = lengthOf(letterAt(start));
                if (length == 0) {
                    return start;
                }
                for (int k = 1; k < length; k++) {
                    if (!fits(start, k, length)) {
                        return start + k;
                    }
                }
                start += length;
            } while (start < told.letterCount);
            return -1;
        }

        /** Behind the last letter there is none: no statement has a part that fits -1. */
        private int letterAt(int at) {
            return at < told.letterCount ? told.letters[at] : -1;
        }

        /** A statement's letters, its ";" too; 0 if none begins so. */
        private static int lengthOf(int head) {
            switch (head) {
                case 'l':
                case 'm':
                case 'k':
                case 'b':
                    return 3;
                case 'p':
                case 'c':
                case 's':
                    return 4;
                default:
                    return 0;
            }
        }

        private boolean fits(int start, int k, int length) {
            int c = letterAt(start + k);
            if (k == length - 1) {
                return c == ';';
            }
            if (k == 2 && letterAt(start) == 'p') {
                return c == '+' || c == '-';
            }
            return c >= '0' && c <= '9';
        }

        private boolean obey(int start) {
            int first = letterAt(start + 1) - '0';
            int second = letterAt(start + 2) - '0';
            switch (letterAt(start)) {
                case 'p':
                    return told.addPlate(first, letterAt(start + 2) == '-');
                case 'l':
                    told.law = first;
                    return first < LAWS;
                case 'm':
                    told.limit = first;
                    return first >= 1 && first <= MOST_PLATES;
                case 'k':
                    told.keptPlate = first;
                    return first == NO_PLATE_KEPT || first < told.plates;
                case 'b':
                    told.burntMatters = first == 1;
                    return first <= 1;
                case 'c':
                    told.turnCost = first;
                    told.plateCost = second;
                    return true;
                case 's':
                    return told.addSight(first, second);
                default:
                    return false;
            }
        }
    }

    /**
     * All states of some plates by numbers, and where each turn leads. A state is an order's
     * number and behind it a bit for each place, the top's first: so the numbers go as the
     * document orders states. Orders and sides turn apart from each other, which keeps the rows small.
     */
    private static final class Space {
        int plates;
        int orders = 1;
        int sides = 1;
        int states = 1;
        int turns;
        /** Of each turn, by its number in their order, i and j. */
        final int[] from = new int[MOST_TURNS];
        final int[] to = new int[MOST_TURNS];
        private final int[] plateIn = new int[MOST_ORDERS * MOST_PLATES];
        private final int[] orderBehind = new int[MOST_ORDERS * MOST_TURNS];
        private final int[] sidesBehind = new int[MOST_SIDES * MOST_TURNS];
        private final int[] heap = new int[MOST_PLATES];

        void shape(int count) {
            if (count == plates || count < 0 || count > MOST_PLATES) {
                return;
            }
            plates = count;
            sides = 1 << count;
            orders = 1;
            for (int k = 2; k <= count; k++) {
                orders *= k;
            }
            states = orders * sides;
            listTurns();
            listOrders();
            for (int order = 0; order < orders; order++) {
                listOrdersBehind(order);
            }
            for (int mask = 0; mask < sides; mask++) {
                listSidesBehind(mask);
            }
        }

        private void listTurns() {
            turns = 0;
            for (int i = 0; i < plates; i++) {
                for (int j = i + 1; j <= plates; j++) {
                    from[turns] = i;
                    to[turns] = j;
                    turns++;
                }
            }
        }

        private void listOrders() {
            for (int place = 0; place < plates; place++) {
                heap[place] = place;
            }
            for (int order = 0; order < orders; order++) {
                System.arraycopy(heap, 0, plateIn, order * MOST_PLATES, plates);
                toNextOrder();
            }
        }

        /** The lowest place that can take a greater plate takes the least such; below it all go up. */
        private void toNextOrder() {
            int pivot = plates - 2;
            while (pivot >= 0 && heap[pivot] > heap[pivot + 1]) {
                pivot--;
            }
            if (pivot < 0) {
                return;
            }
            int taker = plates - 1;
            while (taker > pivot && heap[taker] < heap[pivot]) {
                taker--;
            }
            swap(pivot, taker);
            int upper = pivot + 1;
            int lower = plates - 1;
            while (upper < lower) {
                swap(upper, lower);
                upper++;
                lower--;
            }
        }

        private void swap(int a, int b) {
            int plate = heap[a];
            heap[a] = heap[b];
            heap[b] = plate;
        }

        private void listOrdersBehind(int order) {
            for (int t = 0; t < turns; t++) {
                System.arraycopy(plateIn, order * MOST_PLATES, heap, 0, plates);
                turnOver(heap, from[t], to[t]);
                orderBehind[order * MOST_TURNS + t] = orderOf(heap);
            }
        }

        private void listSidesBehind(int mask) {
            for (int t = 0; t < turns; t++) {
                for (int place = 0; place < plates; place++) {
                    heap[place] = bitAt(mask, place) * BURNT_CODE;
                }
                turnOver(heap, from[t], to[t]);
                sidesBehind[mask * MOST_TURNS + t] = sidesOf(heap);
            }
        }

        private int bitAt(int mask, int place) {
            return mask >> plates - 1 - place & 1;
        }

        /** Its number among all orders of these plates, the first plate in the top place first. */
        int orderOf(int[] codes) {
            int order = 0;
            for (int place = 0; place < plates; place++) {
                int lesser = 0;
                for (int lower = place + 1; lower < plates; lower++) {
                    if (codes[lower] % BURNT_CODE < codes[place] % BURNT_CODE) {
                        lesser++;
                    }
                }
                order = order * (plates - place) + lesser;
            }
            return order;
        }

        private int sidesOf(int[] codes) {
            int mask = 0;
            for (int place = 0; place < plates; place++) {
                mask = mask * 2 + codes[place] / BURNT_CODE;
            }
            return mask;
        }

        int stateOf(int[] codes) {
            return orderOf(codes) << plates | sidesOf(codes);
        }

        int orderIn(int state) {
            return state >> plates;
        }

        int plateAt(int order, int place) {
            return plateIn[order * MOST_PLATES + place];
        }

        boolean burntAt(int state, int place) {
            return bitAt(state, place) == 1;
        }

        int codeAt(int state, int place) {
            int plate = plateAt(orderIn(state), place);
            return burntAt(state, place) ? plate + BURNT_CODE : plate;
        }

        /** The state of an order in which the plates of these bits have the burnt side up. */
        int stateWith(int order, int burntPlates) {
            int mask = 0;
            for (int place = 0; place < plates; place++) {
                mask = mask * 2 + (burntPlates >> plateAt(order, place) & 1);
            }
            return order << plates | mask;
        }

        int behind(int state, int t) {
            int order = orderBehind[(state >> plates) * MOST_TURNS + t];
            return order << plates | sidesBehind[(state & sides - 1) * MOST_TURNS + t];
        }

        /** The number of a turn among all turns, -1 if there is no such turn. */
        int turnOf(int i, int j) {
            for (int t = 0; t < turns; t++) {
                if (from[t] == i && to[t] == j) {
                    return t;
                }
            }
            return -1;
        }

        int turnTold(int number) {
            return turnOf(number / 10, number % 10);
        }

        int told(int t) {
            return 10 * from[t] + to[t];
        }
    }

    /**
     * What may be, what it costs, what is in order and what does not fit, as things are told.
     * What hangs on the order alone is looked up once for each order, as searches ask it often.
     */
    private static final class Rules {
        private final Told told;
        private final Space space;
        private final boolean[] lawfulIn = new boolean[MOST_ORDERS * MOST_TURNS];
        private final boolean[] sorted = new boolean[MOST_ORDERS];
        /** Of each plate how many unlike sizes are less than its own. */
        private final int[] rank = new int[MOST_PLATES];
        private int boardRank;

        Rules(Told told, Space space) {
            this.told = told;
            this.space = space;
            sorted[0] = true;
        }

        /** To be called when something else is told, the space having its shape by then. */
        void settle() {
            rankSizes();
            for (int order = 0; order < space.orders; order++) {
                sorted[order] = isSorted(order);
                for (int t = 0; t < space.turns; t++) {
                    lawfulIn[order * MOST_TURNS + t] = allows(order, t);
                }
            }
        }

        private void rankSizes() {
            int sizesSeen = 0;
            for (int plate = 0; plate < told.plates; plate++) {
                sizesSeen |= 1 << told.sizes[plate];
            }
            for (int plate = 0; plate < told.plates; plate++) {
                int lesser = sizesSeen & (1 << told.sizes[plate]) - 1;
                rank[plate] = Integer.bitCount(lesser);
            }
            boardRank = Integer.bitCount(sizesSeen);
        }

        private boolean isSorted(int order) {
            for (int place = 1; place < space.plates; place++) {
                if (sizeAt(order, place - 1) > sizeAt(order, place)) {
                    return false;
                }
            }
            return true;
        }

        private boolean allows(int order, int t) {
            int i = space.from[t];
            int j = space.to[t];
            switch (told.law) {
                case 0:
                    return i == 0;
                case 1:
                    return i == 0 && j <= told.limit;
                case 2:
                    return i == 0 && !isAmongTop(order, j, told.keptPlate);
                case 3:
                    return true;
                case 4:
                    return (j - i) % 2 == 0;
                default:
                    return false;
            }
        }

        private boolean isAmongTop(int order, int many, int plate) {
            for (int place = 0; place < many; place++) {
                if (space.plateAt(order, place) == plate) {
                    return true;
                }
            }
            return false;
        }

        /** No law looks at sides; and a turn that may be may be again behind itself. */
        boolean lawful(int order, int t) {
            return lawfulIn[order * MOST_TURNS + t];
        }

        boolean arranged(int state) {
            boolean allClean = (state & space.sides - 1) == 0;
            return sorted[state >> space.plates] && (allClean || !told.burntMatters);
        }

        int howManyLawful(int order) {
            int many = 0;
            for (int t = 0; t < space.turns; t++) {
                if (lawful(order, t)) {
                    many++;
                }
            }
            return many;
        }

        /** The turn with so many lawful ones ahead of it, -1 if there is none. */
        int lawfulAt(int order, int ahead) {
            int many = 0;
            for (int t = 0; t < space.turns; t++) {
                if (lawful(order, t)) {
                    if (many == ahead) {
                        return t;
                    }
                    many++;
                }
            }
            return -1;
        }

        int costOf(int t) {
            return told.turnCost + space.to[t] * told.plateCost;
        }

        int sizeAt(int order, int place) {
            return told.sizes[space.plateAt(order, place)];
        }

        int gapsOf(int state) {
            int many = 0;
            for (int place = 0; place < space.plates; place++) {
                if (isGapUnder(state, place)) {
                    many++;
                }
            }
            return many;
        }

        private boolean isGapUnder(int state, int place) {
            int order = space.orderIn(state);
            boolean onBoard = place + 1 == space.plates;
            int upper = rank[space.plateAt(order, place)];
            int lower = onBoard ? boardRank : rank[space.plateAt(order, place + 1)];
            if (Math.abs(upper - lower) > 1) {
                return true;
            }
            boolean lowerBurnt = !onBoard && space.burntAt(state, place + 1);
            return told.burntMatters && space.burntAt(state, place) != lowerBurnt;
        }
    }

    /** Rows that several searches use one after the other, none of them for longer than a call. */
    private static final class Scratch {
        final int[] queue = new int[MOST_STATES];
        final int[] first = new int[MOST_STATES];
        final int[] second = new int[MOST_STATES];
    }

    /**
     * How far all states are from order. As each turn leads back too, all is found from the
     * states in order outwards, once for all calls till something else is told.
     */
    private static final class Chart {
        private final Space space;
        private final Rules rules;
        private final int[] queue;
        private final int[] waiting;
        private final int[] distance = new int[MOST_STATES];
        private final int[] rows = new int[MOST_STATES];
        private final int[] price = new int[MOST_STATES];
        private boolean measured;
        private boolean priced;

        Chart(Space space, Rules rules, Scratch scratch) {
            this.space = space;
            this.rules = rules;
            queue = scratch.queue;
            waiting = scratch.first;
        }

        void forget() {
            measured = false;
            priced = false;
        }

        int leastOf(int state) {
            measure();
            return distance[state];
        }

        int waysOf(int state) {
            measure();
            return distance[state] < 0 ? 0 : rows[state];
        }

        int priceOf(int state) {
            setPrices();
            return price[state];
        }

        int howManyAt(int turns) {
            measure();
            int many = 0;
            for (int state = 0; state < space.states; state++) {
                if (distance[state] == turns) {
                    many++;
                }
            }
            return many;
        }

        int worstState() {
            measure();
            int worst = 0;
            for (int state = 1; state < space.states; state++) {
                if (distance[state] > distance[worst]) {
                    worst = state;
                }
            }
            return worst;
        }

        private void measure() {
            if (measured) {
                return;
            }
            measured = true;
            int seeds = 0;
            for (int state = 0; state < space.states; state++) {
                distance[state] = -1;
                if (rules.arranged(state)) {
                    distance[state] = 0;
                    rows[state] = 1;
                    queue[seeds] = state;
                    seeds++;
                }
            }
            flood(distance, rows, seeds);
        }

        /** From the first states of the queue on: far is -1 where nothing has come yet. */
        void flood(int[] far, int[] shortest, int seeds) {
            int tail = seeds;
            for (int head = 0; head < tail && head < MOST_STATES; head++) {
                int state = queue[head];
                int order = space.orderIn(state);
                for (int t = 0; t < space.turns; t++) {
                    if (!rules.lawful(order, t)) {
                        continue;
                    }
                    int other = space.behind(state, t);
                    if (far[other] < 0 && tail < MOST_STATES) {
                        far[other] = far[state] + 1;
                        shortest[other] = 0;
                        queue[tail] = other;
                        tail++;
                    }
                    if (far[other] == far[state] + 1) {
                        shortest[other] += shortest[state];
                    }
                }
            }
        }

        /** A state waits once at most, so the queue, used round and round, has room for all. */
        private void setPrices() {
            if (priced) {
                return;
            }
            priced = true;
            int head = 0;
            int held = seedPrices();
            for (int step = 0; step < MOST_STEPS && held > 0; step++) {
                int state = queue[head];
                waiting[state] = 0;
                head = roundTheQueue(head + 1);
                held--;
                int order = space.orderIn(state);
                for (int t = 0; t < space.turns; t++) {
                    int other = space.behind(state, t);
                    int sum = price[state] + rules.costOf(t);
                    boolean known = price[other] >= 0 && price[other] <= sum;
                    if (known || !rules.lawful(order, t)) {
                        continue;
                    }
                    price[other] = sum;
                    if (waiting[other] == 0) {
                        waiting[other] = 1;
                        queue[roundTheQueue(head + held)] = other;
                        held++;
                    }
                }
            }
        }

        private int seedPrices() {
            int held = 0;
            for (int state = 0; state < space.states; state++) {
                price[state] = -1;
                waiting[state] = 0;
                if (rules.arranged(state)) {
                    price[state] = 0;
                    waiting[state] = 1;
                    queue[held] = state;
                    held++;
                }
            }
            return held;
        }

        private static int roundTheQueue(int at) {
            return at < MOST_STATES ? at : at - MOST_STATES;
        }
    }

    /** What is found from the heap itself and not kept: ways on and back, a match, a shuffle. */
    private static final class Walks {
        private static final int LOST = 0;
        private static final int WON = 1;
        private static final int NEITHER = 2;

        private final Space space;
        private final Rules rules;
        private final Chart chart;
        private final int[] queue;
        private final int[] first;
        private final int[] second;

        Walks(Space space, Rules rules, Chart chart, Scratch scratch) {
            this.space = space;
            this.rules = rules;
            this.chart = chart;
            queue = scratch.queue;
            first = scratch.first;
            second = scratch.second;
        }

        int turnsBetween(int start, int end) {
            fillFirst(-1);
            first[start] = 0;
            second[start] = 1;
            queue[0] = start;
            chart.flood(first, second, 1);
            return first[end];
        }

        private void fillFirst(int value) {
            for (int state = 0; state < space.states; state++) {
                first[state] = value;
            }
        }

        /** As each turn leads back too, the states before are those behind: a bit for each step. */
        int howManyBehind(int start, int steps) {
            fillFirst(0);
            first[start] = 1;
            for (int step = 1; step <= steps; step++) {
                for (int state = 0; state < space.states; state++) {
                    if ((first[state] >> step - 1 & 1) == 1) {
                        markBehind(state, 1 << step);
                    }
                }
            }
            int many = 0;
            for (int state = 0; state < space.states; state++) {
                many += first[state] >> steps & 1;
            }
            return many;
        }

        private void markBehind(int state, int bit) {
            int order = space.orderIn(state);
            for (int t = 0; t < space.turns; t++) {
                if (rules.lawful(order, t)) {
                    first[space.behind(state, t)] |= bit;
                }
            }
        }

        int shuffle(int start, int turns, int seed) {
            int state = start;
            int z = seed;
            for (int k = 0; k < turns; k++) {
                int order = space.orderIn(state);
                int many = rules.howManyLawful(order);
                if (many <= 0) {
                    return state;
                }
                z = z * 1664525 + 1013904223;
                int t = rules.lawfulAt(order, (z & ALL_BUT_THE_SIGN) / 256 % many);
                if (t >= 0) {
                    state = space.behind(state, t);
                }
            }
            return state;
        }

        /** From the ends backwards: what never gets a verdict is a match that neither wins. */
        int matchFrom(int start) {
            int tail = seedMatch();
            for (int head = 0; head < tail && head < MOST_STATES; head++) {
                int state = queue[head];
                int order = space.orderIn(state);
                for (int t = 0; t < space.turns; t++) {
                    if (!rules.lawful(order, t)) {
                        continue;
                    }
                    int other = space.behind(state, t);
                    if (first[other] == NEITHER && isSettledBy(state, other) && tail < MOST_STATES) {
                        queue[tail] = other;
                        tail++;
                    }
                }
            }
            return first[start];
        }

        /** First has the verdicts, second how many turns are not yet known to lose. */
        private int seedMatch() {
            int tail = 0;
            for (int state = 0; state < space.states; state++) {
                second[state] = rules.howManyLawful(space.orderIn(state));
                first[state] = NEITHER;
                if (second[state] == 0 || rules.arranged(state)) {
                    first[state] = LOST;
                    queue[tail] = state;
                    tail++;
                }
            }
            return tail;
        }

        private boolean isSettledBy(int state, int other) {
            if (first[state] == LOST) {
                first[other] = WON;
                return true;
            }
            second[other]--;
            if (second[other] == 0) {
                first[other] = LOST;
                return true;
            }
            return false;
        }
    }

    /** Who says where the knife goes: a turn's number, -1 for none. */
    private static final class Waiters {
        private final Space space;
        private final Rules rules;
        private final Chart chart;

        Waiters(Space space, Rules rules, Chart chart) {
            this.space = space;
            this.rules = rules;
            this.chart = chart;
        }

        int advise(int kind, int state) {
            if (rules.arranged(state)) {
                return -1;
            }
            switch (kind) {
                case 0:
                    return rules.lawfulAt(space.orderIn(state), 0);
                case 1:
                    return fewestGaps(state);
                case 2:
                    return shorter(state);
                case 3:
                    return cheap(state);
                case 4:
                    return large(space.orderIn(state));
                default:
                    return -1;
            }
        }

        int turnsMade(int kind, int start) {
            int state = start;
            for (int made = 0; made <= MOST_RULE_TURNS; made++) {
                if (rules.arranged(state)) {
                    return made;
                }
                int t = advise(kind, state);
                if (t < 0) {
                    return -1;
                }
                state = space.behind(state, t);
            }
            return -1;
        }

        private int fewestGaps(int state) {
            int best = -1;
            int bestGaps = 0;
            for (int t = 0; t < space.turns; t++) {
                if (rules.lawful(space.orderIn(state), t)) {
                    int found = rules.gapsOf(space.behind(state, t));
                    if (best < 0 || found < bestGaps) {
                        best = t;
                        bestGaps = found;
                    }
                }
            }
            return best;
        }

        private int shorter(int state) {
            int current = chart.leastOf(state);
            if (current < 0) {
                return -1;
            }
            for (int t = 0; t < space.turns; t++) {
                if (rules.lawful(space.orderIn(state), t)
                        && chart.leastOf(space.behind(state, t)) < current) {
                    return t;
                }
            }
            return -1;
        }

        private int cheap(int state) {
            int current = chart.priceOf(state);
            if (current < 0) {
                return -1;
            }
            for (int t = 0; t < space.turns; t++) {
                if (rules.lawful(space.orderIn(state), t)
                        && rules.costOf(t) + chart.priceOf(space.behind(state, t)) == current) {
                    return t;
                }
            }
            return -1;
        }

        private int large(int order) {
            int k = lowestWithGreaterAbove(order);
            if (k < 0) {
                return -1;
            }
            int q = 0;
            for (int place = 1; place <= k; place++) {
                if (rules.sizeAt(order, place) >= rules.sizeAt(order, q)) {
                    q = place;
                }
            }
            return space.turnOf(0, q == 0 ? k + 1 : q + 1);
        }

        private int lowestWithGreaterAbove(int order) {
            int lowest = -1;
            int greatest = 0;
            for (int place = 0; place < space.plates; place++) {
                int size = rules.sizeAt(order, place);
                if (size < greatest) {
                    lowest = place;
                }
                greatest = Math.max(greatest, size);
            }
            return lowest;
        }
    }

    /** Rows of turns told beforehand, for all heaps that the sights allow at once. */
    private static final class Blind {
        private final Told told;
        private final Space space;
        private final Rules rules;
        private final int[] starts = new int[MOST_ORDERS];
        private int startCount;
        private final int[] rowTurns = new int[MOST_IN_ROW];
        private int rowLength;

        Blind(Told told, Space space, Rules rules) {
            this.told = told;
            this.space = space;
            this.rules = rules;
        }

        /** Whether all numbers of the row tell turns. */
        boolean takesRow() {
            rowLength = told.rowCount;
            for (int k = 0; k < rowLength; k++) {
                rowTurns[k] = space.turnTold(told.row[k]);
                if (rowTurns[k] < 0) {
                    return false;
                }
            }
            return true;
        }

        boolean rowArrangesAll() {
            listStarts();
            return arrangesAll();
        }

        /** The length of the first of the shortest rows, which is held then; -1 if there is none. */
        int shortestRow() {
            listStarts();
            for (int length = 0; length <= MOST_BLIND_TURNS; length++) {
                if (findRow(length)) {
                    return length;
                }
            }
            return -1;
        }

        int turnInRow(int k) {
            return rowTurns[k];
        }

        private void listStarts() {
            startCount = 0;
            int burntPlates = told.burntPlates();
            for (int order = 0; order < space.orders; order++) {
                if (isAllowed(order)) {
                    starts[startCount] = space.stateWith(order, burntPlates);
                    startCount++;
                }
            }
        }

        private boolean isAllowed(int order) {
            for (int k = 0; k < told.sightCount; k++) {
                if (placeOf(order, told.above[k]) > placeOf(order, told.below[k])) {
                    return false;
                }
            }
            return true;
        }

        private int placeOf(int order, int plate) {
            for (int place = 0; place < space.plates; place++) {
                if (space.plateAt(order, place) == plate) {
                    return place;
                }
            }
            return -1;
        }

        private boolean findRow(int length) {
            if (length > 0 && space.turns == 0) {
                return false;
            }
            rowLength = length;
            for (int k = 0; k < length; k++) {
                rowTurns[k] = 0;
            }
            for (int tried = 0; tried < MOST_STEPS; tried++) {
                if (arrangesAll()) {
                    return true;
                }
                if (!toNextRow()) {
                    return false;
                }
            }
            return false;
        }

        /** Counts on, the last turn first; false when all rows of this length have been. */
        private boolean toNextRow() {
            for (int k = rowLength - 1; k >= 0; k--) {
                rowTurns[k]++;
                if (rowTurns[k] < space.turns) {
                    return true;
                }
                rowTurns[k] = 0;
            }
            return false;
        }

        private boolean arrangesAll() {
            for (int k = 0; k < startCount; k++) {
                if (!arranges(starts[k])) {
                    return false;
                }
            }
            return true;
        }

        /** A row that the law stops on its way brings this heap nowhere. */
        private boolean arranges(int start) {
            int state = start;
            for (int k = 0; k < rowLength; k++) {
                if (!rules.lawful(space.orderIn(state), rowTurns[k])) {
                    return false;
                }
                state = space.behind(state, rowTurns[k]);
            }
            return rules.arranged(state);
        }
    }
}
