public final class CabinetBooks {
    private static final int NOBODY = -1;
    private static final int OTHER = -2;
    private static final int STATE = -3;
    private static final int BELOW = -4;
    private static final int NO_ROOM = -6;
    private static final int NONE = -9;
    private static final int REFUSAL_NUMBERS = 6;

    private static final int WORDS = 20;
    private static final int CATALOGUES = 4;
    private static final int ENTRIES = 10;
    private static final int FIRST_YEAR = 1500;
    private static final int LAST_YEAR = 1900;
    private static final int MOST_SIZE = 200;
    private static final int MOST_ROOM = 9;
    private static final int MOST_COLOUR = 99;
    private static final int MOST_SPARE = 50;
    private static final int MOST_FADE = 9;
    private static final int MOST_BARS = 30;
    private static final int MOST_BESTS = 1000000;
    private static final int LONGEST_WAY = 999;

    private static final int THINGS = 12;
    private static final int PLACES = 8;
    private static final int PEOPLE = 8;
    private static final int RECORDS = 60;
    private static final int LAST_DAY = 80000;
    private static final int NEVER = LAST_DAY + 1;
    private static final int TAKEN = 2;
    private static final int LENT = 3;
    private static final int BACK = 4;

    private static final int SAYINGS = 40;
    private static final int LEFT_OF = 0;
    private static final int BESIDE = 1;
    private static final int LEFT_END = 2;
    private static final int RIGHT_END = 3;
    private static final int MOST_TRUST = 9;
    private static final int SHELF_THINGS = 8;

    private static final int PARTS = 10;
    private static final int KINDS = 6;

    private final Catalogues catalogues;
    private final Joining[] joinings;
    private final Records sights;
    private final Records moves;
    private final Holding holding;
    private final Sayings sayings;
    private final Beasts beasts;
    private final int[] refusals;
    // Made by the first call that needs them, once: their rows are most of what an object holds.
    private Joiner joiner = null;
    private Shelf builder = null;

    public CabinetBooks() {
        catalogues = new Catalogues();
        joinings = new Joining[CATALOGUES * CATALOGUES];
        for (int pair = 0; pair < joinings.length; pair++) {
            joinings[pair] = new Joining();
        }
        sights = new Records();
        moves = new Records();
        holding = new Holding();
        sayings = new Sayings();
        beasts = new Beasts();
        refusals = new int[REFUSAL_NUMBERS + 1];
    }

    public int means(int word, int other) {
        if (!isWord(word) || !isWord(other)) {
            return refuse(NOBODY);
        }
        if (other > word) {
            return refuse(BELOW);
        }
        return catalogues.tellMeaning(word, other);
    }

    public int sense(int word) {
        if (!isWord(word)) {
            return refuse(NOBODY);
        }
        return catalogues.sense[word];
    }

    public int year(int c, int y) {
        if (!isCatalogue(c)) {
            return refuse(NOBODY);
        }
        if (y < FIRST_YEAR) {
            return refuse(BELOW);
        }
        if (y > LAST_YEAR) {
            return refuse(NO_ROOM);
        }
        return catalogues.tellYear(c, y);
    }

    public int entry(int c, int words, int size, int room, int colour) {
        if (!isCatalogue(c) || hasOtherBits(words, WORDS)) {
            return refuse(NOBODY);
        }
        if (words == 0 || size < 1 || room < 0 || colour < 0) {
            return refuse(BELOW);
        }
        if (size > MOST_SIZE || room > MOST_ROOM || colour > MOST_COLOUR || catalogues.filled[c] >= ENTRIES) {
            return refuse(NO_ROOM);
        }
        return catalogues.addEntry(c, words, size, room, colour);
    }

    public int set(int what, int v) {
        if (what != 0 && what != 1) {
            return refuse(OTHER);
        }
        if (v < 0) {
            return refuse(BELOW);
        }
        if (v > (what == 0 ? MOST_SPARE : MOST_FADE)) {
            return refuse(NO_ROOM);
        }
        return what == 0 ? catalogues.tellSpare(v) : catalogues.tellFade(v);
    }

    public int bar(int a, int i, int b, int k) {
        if (!areTwo(a, b) || !isEntry(a, i) || !isEntry(b, k)) {
            return refuse(NOBODY);
        }
        int one = a * ENTRIES + i;
        int other = b * ENTRIES + k;
        if (catalogues.isBarTold(one, other)) {
            return 0;
        }
        if (catalogues.bars >= MOST_BARS) {
            return refuse(NO_ROOM);
        }
        catalogues.tellBar(one, other);
        return 1;
    }

    public int like(int a, int i, int b, int k) {
        if (!areTwo(a, b) || !isEntry(a, i) || !isEntry(b, k)) {
            return refuse(NOBODY);
        }
        return catalogues.likeness(a * ENTRIES + i, b * ENTRIES + k);
    }

    public int join(int a, int b) {
        if (!areTwo(a, b)) {
            return refuse(NOBODY);
        }
        return bestJoining(a, b).sum;
    }

    public int joined(int a, int i, int b) {
        if (!areTwo(a, b) || !isEntry(a, i)) {
            return refuse(NOBODY);
        }
        return bestJoining(a, b).partner[i];
    }

    public int bests(int a, int b) {
        if (!areTwo(a, b)) {
            return refuse(NOBODY);
        }
        return bestJoining(a, b).ways;
    }

    public int sure(int a, int i, int b) {
        if (!areTwo(a, b) || !isEntry(a, i)) {
            return refuse(NOBODY);
        }
        return bestJoining(a, b).certain[i] ? 1 : 0;
    }

    public int chain(int a, int i, int way, int what) {
        if (!isEntry(a, i) || !isWay(a, way)) {
            return refuse(NOBODY);
        }
        if (what < 0 || what > 2) {
            return refuse(OTHER);
        }
        return followChain(a, i, way, what);
    }

    public int copied(int a, int b, int k) {
        if (!isCatalogue(a) || !isEntry(b, k)) {
            return refuse(NOBODY);
        }
        if (catalogues.years[b] <= catalogues.years[a]) {
            return refuse(STATE);
        }
        Joining best = bestJoining(a, b);
        for (int i = 0; i < catalogues.filled[a]; i++) {
            if (best.partner[i] != k && catalogues.isSameText(a * ENTRIES + i, b * ENTRIES + k)) {
                return i;
            }
        }
        return NONE;
    }

    public int sight(int thing, int place, int day, int known) {
        if (!isThing(thing) || place < 0 || place >= PLACES) {
            return refuse(NOBODY);
        }
        int bad = daysRefusal(day, known);
        if (bad != 0) {
            return refuse(bad);
        }
        if (sights.filled >= RECORDS) {
            return refuse(NO_ROOM);
        }
        return sights.addRecord(thing, place, day, 0, known);
    }

    public int move(int thing, int person, int day, int sort, int known) {
        if (!isThing(thing) || person < 0 || person >= PEOPLE) {
            return refuse(NOBODY);
        }
        if (sort < 0 || sort > BACK) {
            return refuse(OTHER);
        }
        int bad = daysRefusal(day, known);
        if (bad != 0) {
            return refuse(bad);
        }
        if (moves.filled >= RECORDS) {
            return refuse(NO_ROOM);
        }
        return moves.addRecord(thing, person, day, sort, known);
    }

    public int withdraw(boolean sight, int n, int known) {
        Records records = sight ? sights : moves;
        if (n < 0 || n >= records.filled) {
            return refuse(NOBODY);
        }
        if (records.gone[n] != NEVER) {
            return refuse(STATE);
        }
        if (known < records.known[n]) {
            return refuse(BELOW);
        }
        if (known > LAST_DAY) {
            return refuse(NO_ROOM);
        }
        records.takeBack(n, known);
        return 1;
    }

    public int where(int thing, int day, int known) {
        if (!isThing(thing)) {
            return refuse(NOBODY);
        }
        int bad = daysRefusal(day, known);
        if (bad != 0) {
            return refuse(bad);
        }
        return sights.lastPlace(thing, day, known);
    }

    public int quarrels(int thing, int known) {
        if (!isThing(thing)) {
            return refuse(NOBODY);
        }
        int bad = daysRefusal(known, known);
        if (bad != 0) {
            return refuse(bad);
        }
        return sights.quarrelDays(thing, known);
    }

    public int holds(int thing, int day, int known, int what) {
        if (!isThing(thing)) {
            return refuse(NOBODY);
        }
        if (what < 0 || what > 2) {
            return refuse(OTHER);
        }
        int bad = daysRefusal(day, known);
        if (bad != 0) {
            return refuse(bad);
        }
        holding.replay(moves, thing, day, known);
        if (what == 0) {
            return holding.holder;
        }
        if (what == 1) {
            return holding.owner;
        }
        return holding.stolen ? 1 : 0;
    }

    public int since(int thing, int day, int known) {
        if (!isThing(thing)) {
            return refuse(NOBODY);
        }
        int bad = daysRefusal(day, known);
        if (bad != 0) {
            return refuse(bad);
        }
        return holding.heldSince(moves, thing, day, known);
    }

    public int visitor(int sort, int x, int y, int trust) {
        if (sort < LEFT_OF || sort > RIGHT_END) {
            return refuse(OTHER);
        }
        if (!isThing(x) || (needsTwo(sort) && (!isThing(y) || x == y))) {
            return refuse(NOBODY);
        }
        if (trust < 1) {
            return refuse(BELOW);
        }
        if (trust > MOST_TRUST || sayings.filled >= SAYINGS) {
            return refuse(NO_ROOM);
        }
        // Of the ends y counts nothing, so it is held as x: then the rest need not ask what y is.
        return sayings.addSaying(sort, x, needsTwo(sort) ? y : x, trust);
    }

    public int shelf(int set) {
        int bad = shelfRefusal(set);
        if (bad != 0) {
            return refuse(bad);
        }
        return bestRow(set).sum;
    }

    public int row(int set, int k) {
        int bad = shelfRefusal(set);
        if (bad != 0) {
            return refuse(bad);
        }
        Shelf best = bestRow(set);
        return k < 0 || k >= best.size ? NONE : best.told[k];
    }

    public int quarrel(int set) {
        int bad = shelfRefusal(set);
        if (bad != 0) {
            return refuse(bad);
        }
        Shelf best = bestRow(set);
        return best.total - best.sum;
    }

    public int part(int p, int kind) {
        if (p < 0 || p >= PARTS) {
            return refuse(NOBODY);
        }
        if (kind < 0) {
            return refuse(BELOW);
        }
        if (kind >= KINDS) {
            return refuse(NO_ROOM);
        }
        return beasts.tellKind(p, kind);
    }

    public int clash(int a, int b, boolean on) {
        if (a < 0 || b < 0) {
            return refuse(BELOW);
        }
        if (a >= KINDS || b >= KINDS) {
            return refuse(NO_ROOM);
        }
        if (a == b) {
            return refuse(STATE);
        }
        return beasts.tellClash(a, b, on) ? 1 : 0;
    }

    public int fake(int beast) {
        if (hasOtherBits(beast, PARTS)) {
            return refuse(NOBODY);
        }
        return beasts.isFake(beast) ? 1 : 0;
    }

    public int least(int beast) {
        if (hasOtherBits(beast, PARTS)) {
            return refuse(NOBODY);
        }
        return beasts.leastWithout(beast);
    }

    public int count(int what) {
        switch (what) {
            case 0:
            case 1:
            case 2:
            case 3:
                return catalogues.filled[what];
            case 4:
                return sights.filled;
            case 5:
                return moves.filled;
            case 6:
                return sayings.filled;
            case 7:
                return catalogues.bars;
            case 8:
                return beasts.clashes;
            case 9:
                return sights.withdrawn + moves.withdrawn;
            default:
                return what > 10 && what <= 10 + REFUSAL_NUMBERS ? refusals[what - 10] : NONE;
        }
    }

    private int refuse(int number) {
        refusals[-number]++;
        return number;
    }

    private static boolean isWord(int word) {
        return word >= 0 && word < WORDS;
    }

    private static boolean isCatalogue(int c) {
        return c >= 0 && c < CATALOGUES;
    }

    private static boolean areTwo(int a, int b) {
        return isCatalogue(a) && isCatalogue(b) && a != b;
    }

    private static boolean isThing(int thing) {
        return thing >= 0 && thing < THINGS;
    }

    private static boolean needsTwo(int sort) {
        return sort == LEFT_OF || sort == BESIDE;
    }

    private static boolean hasOtherBits(int set, int bits) {
        return set < 0 || set >= 1 << bits;
    }

    private boolean isEntry(int c, int i) {
        return isCatalogue(c) && i >= 0 && i < catalogues.filled[c];
    }

    private static int daysRefusal(int day, int known) {
        if (day < 0 || known < 0) {
            return BELOW;
        }
        return day > LAST_DAY || known > LAST_DAY ? NO_ROOM : 0;
    }

    private static int shelfRefusal(int set) {
        if (set == 0 || hasOtherBits(set, THINGS)) {
            return NOBODY;
        }
        return Integer.bitCount(set) > SHELF_THINGS ? NO_ROOM : 0;
    }

    private static boolean isWay(int a, int way) {
        if (way < 1 || way > LONGEST_WAY) {
            return false;
        }
        int seen = 1 << a;
        for (int rest = way; rest > 0; rest /= 10) {
            int c = rest % 10 - 1;
            if (!isCatalogue(c) || (seen >> c & 1) != 0) {
                return false;
            }
            seen |= 1 << c;
        }
        return true;
    }

    private int followChain(int a, int i, int way, int what) {
        int from = a;
        int at = i;
        int steps = 0;
        int doubt = 0;
        for (int place = 100; place > 0 && at != NONE; place /= 10) {
            int to = way / place % 10 - 1;
            if (to >= 0) {
                Joining best = bestJoining(from, to);
                int next = best.partner[at];
                if (next != NONE) {
                    steps++;
                    int likeness = catalogues.likeness(from * ENTRIES + at, to * ENTRIES + next);
                    doubt += Math.max(0, 100 - likeness) + (best.certain[at] ? 0 : 50);
                }
                from = to;
                at = next;
            }
        }
        if (what == 0) {
            return at;
        }
        return what == 1 ? steps : doubt;
    }

    private Joining bestJoining(int a, int b) {
        Joining best = joinings[a * CATALOGUES + b];
        if (best.version != catalogues.version) {
            if (joiner == null) {
                joiner = new Joiner();
            }
            joiner.solve(catalogues, a, b, best);
            best.version = catalogues.version;
        }
        return best;
    }

    private Shelf bestRow(int set) {
        if (builder == null) {
            builder = new Shelf();
        }
        builder.rebuild(set, sayings);
        return builder;
    }

    /** The book of tongues and the catalogues; an entry's place here is its catalogue times ten and its number. */
    private static final class Catalogues {
        final int[] meaning = new int[WORDS];
        final int[] sense = new int[WORDS];
        final int[] years = new int[CATALOGUES];
        final int[] filled = new int[CATALOGUES];
        final int[] words = new int[CATALOGUES * ENTRIES];
        final int[] senses = new int[CATALOGUES * ENTRIES];
        final int[] size = new int[CATALOGUES * ENTRIES];
        final int[] room = new int[CATALOGUES * ENTRIES];
        final int[] colour = new int[CATALOGUES * ENTRIES];
        final long[] barred = new long[CATALOGUES * ENTRIES];
        int bars = 0;
        int spare = 5;
        int fade = 1;
        // Told joinings stay good as long as this stays: all that a likeness hangs on raises it.
        int version = 1;

        Catalogues() {
            for (int word = 0; word < WORDS; word++) {
                meaning[word] = word;
                sense[word] = word;
            }
            for (int c = 0; c < CATALOGUES; c++) {
                years[c] = FIRST_YEAR;
            }
        }

        int tellMeaning(int word, int other) {
            int was = meaning[word];
            meaning[word] = other;
            // A meaning is never greater than its word, so one pass upward finds every sense.
            for (int w = 0; w < WORDS; w++) {
                sense[w] = meaning[w] == w ? w : sense[meaning[w]];
            }
            for (int e = 0; e < words.length; e++) {
                senses[e] = sensesOf(words[e]);
            }
            version++;
            return was;
        }

        private int sensesOf(int set) {
            int found = 0;
            for (int word = 0; word < WORDS; word++) {
                if ((set >> word & 1) != 0) {
                    found |= 1 << sense[word];
                }
            }
            return found;
        }

        int tellYear(int c, int y) {
            int was = years[c];
            years[c] = y;
            version++;
            return was;
        }

        int tellSpare(int v) {
            int was = spare;
            spare = v;
            version++;
            return was;
        }

        int tellFade(int v) {
            int was = fade;
            fade = v;
            version++;
            return was;
        }

        int addEntry(int c, int set, int big, int where, int hue) {
            int number = filled[c];
            int e = c * ENTRIES + number;
            words[e] = set;
            senses[e] = sensesOf(set);
            size[e] = big;
            room[e] = where;
            colour[e] = hue;
            filled[c] = number + 1;
            version++;
            return number;
        }

        boolean isBarTold(int e, int f) {
            return (barred[e] >> f & 1L) != 0;
        }

        void tellBar(int e, int f) {
            barred[e] |= 1L << f;
            barred[f] |= 1L << e;
            bars++;
            version++;
        }

        boolean isSameText(int e, int f) {
            return words[e] == words[f] && size[e] == size[f];
        }

        /** 0 if the two are barred. */
        int likeness(int e, int f) {
            int apart = Math.abs(size[e] - size[f]);
            int both = senses[e] & senses[f];
            if (apart > spare || both == 0 || isBarTold(e, f) || !fadesAsItMay(e, f)) {
                return 0;
            }
            int points = 10 * Integer.bitCount(both) - 2 * Integer.bitCount(senses[e] ^ senses[f]) - apart;
            if (room[e] == room[f]) {
                points += 7;
            }
            return Math.max(1, points);
        }

        private boolean fadesAsItMay(int e, int f) {
            int c = e / ENTRIES;
            int d = f / ENTRIES;
            boolean firstIsEarlier = years[c] != years[d] ? years[c] < years[d] : c < d;
            int lost = firstIsEarlier ? colour[e] - colour[f] : colour[f] - colour[e];
            int between = firstIsEarlier ? years[d] - years[c] : years[c] - years[d];
            return lost >= 0 && lost <= between * fade + 5;
        }
    }

    /** What is told of the best joinings of two catalogues. */
    private static final class Joining {
        final int[] partner = new int[ENTRIES];
        final boolean[] certain = new boolean[ENTRIES];
        int sum = 0;
        int ways = 0;
        int version = 0;
    }

    /**
     * Finds the best joinings. A state is a level (the entry of a that chooses next) and the set of entries
     * of b that the entries ahead of it have taken; best holds the most that the rest can bring from there.
     */
    private static final class Joiner {
        private static final int SETS = 1 << ENTRIES;

        final int[] likes = new int[ENTRIES * ENTRIES];
        final int[] reach = new int[ENTRIES + 1];
        final int[] best = new int[(ENTRIES + 1) * SETS];
        int[] ways = new int[SETS];
        int[] nextWays = new int[SETS];
        int rows = 0;
        int columns = 0;

        void solve(Catalogues books, int a, int b, Joining told) {
            rows = books.filled[a];
            columns = books.filled[b];
            readLikes(books, a, b);
            weighStates();
            told.sum = best[0];
            tellFirst(told);
            tellWays(told);
        }

        private void readLikes(Catalogues books, int a, int b) {
            reach[0] = 0;
            for (int i = 0; i < rows; i++) {
                int open = 0;
                for (int k = 0; k < columns; k++) {
                    int likeness = books.likeness(a * ENTRIES + i, b * ENTRIES + k);
                    likes[i * ENTRIES + k] = likeness;
                    if (likeness > 0) {
                        open |= 1 << k;
                    }
                }
                reach[i + 1] = reach[i] | open;
            }
        }

        private void weighStates() {
            for (int level = rows; level >= 0; level--) {
                int whole = reach[level];
                for (int taken = whole; taken >= 0; taken = taken == 0 ? -1 : (taken - 1) & whole) {
                    // More than the entries ahead of it could take is no state.
                    if (Integer.bitCount(taken) <= level) {
                        best[level * SETS + taken] = level == rows ? 0 : weighState(level, taken);
                    }
                }
            }
        }

        private int weighState(int level, int taken) {
            int most = best[(level + 1) * SETS + taken];
            for (int k = 0; k < columns; k++) {
                most = Math.max(most, valueOf(level, taken, k));
            }
            return most;
        }

        /** What the entries from this one on can bring if it is joined to k; -1 if it can't be. */
        private int valueOf(int level, int taken, int k) {
            int likeness = likes[level * ENTRIES + k];
            if (likeness == 0 || (taken >> k & 1) != 0) {
                return -1;
            }
            return likeness + best[(level + 1) * SETS + (taken | 1 << k)];
        }

        private void tellFirst(Joining told) {
            int taken = 0;
            for (int level = 0; level < rows; level++) {
                int chosen = NONE;
                for (int k = 0; k < columns && chosen == NONE; k++) {
                    if (valueOf(level, taken, k) == best[level * SETS + taken]) {
                        chosen = k;
                    }
                }
                told.partner[level] = chosen;
                if (chosen != NONE) {
                    taken |= 1 << chosen;
                }
            }
        }

        /** Goes through the states of all best joinings, a level at a time, and leaves both rows of ways empty. */
        private void tellWays(Joining told) {
            ways[0] = 1;
            for (int level = 0; level < rows; level++) {
                int chosen = 0;
                int whole = reach[level];
                for (int taken = whole; taken >= 0; taken = taken == 0 ? -1 : (taken - 1) & whole) {
                    if (ways[taken] > 0) {
                        chosen |= passOn(level, taken);
                        ways[taken] = 0;
                    }
                }
                told.certain[level] = Integer.bitCount(chosen) == 1 && chosen < SETS;
                int[] emptied = ways;
                ways = nextWays;
                nextWays = emptied;
            }
            told.ways = sumWays(reach[rows]);
        }

        /** The choices that keep the best, as bits of entries of b; the bit above them all stands for none. */
        private int passOn(int level, int taken) {
            int goal = best[level * SETS + taken];
            int chosen = 0;
            for (int k = 0; k < columns; k++) {
                if (valueOf(level, taken, k) == goal) {
                    addWays(taken | 1 << k, ways[taken]);
                    chosen |= 1 << k;
                }
            }
            if (best[(level + 1) * SETS + taken] == goal) {
                addWays(taken, ways[taken]);
                chosen |= SETS;
            }
            return chosen;
        }

        private void addWays(int taken, int more) {
            nextWays[taken] = Math.min(MOST_BESTS, nextWays[taken] + more);
        }

        private int sumWays(int whole) {
            int sum = 0;
            for (int taken = whole; taken >= 0; taken = taken == 0 ? -1 : (taken - 1) & whole) {
                sum = Math.min(MOST_BESTS, sum + ways[taken]);
                ways[taken] = 0;
            }
            return sum;
        }
    }

    /** Sights or moves: the other is a place or a person. */
    private static final class Records {
        final int[] thing = new int[RECORDS];
        final int[] other = new int[RECORDS];
        final int[] day = new int[RECORDS];
        final int[] sort = new int[RECORDS];
        final int[] known = new int[RECORDS];
        final int[] gone = new int[RECORDS];
        // Numbers by days, then by numbers.
        final int[] order = new int[RECORDS];
        int filled = 0;
        int withdrawn = 0;

        int addRecord(int what, int whom, int on, int kind, int knownOn) {
            int n = filled;
            thing[n] = what;
            other[n] = whom;
            day[n] = on;
            sort[n] = kind;
            known[n] = knownOn;
            gone[n] = NEVER;
            int at = n;
            while (at > 0 && day[order[at - 1]] > on) {
                order[at] = order[at - 1];
                at--;
            }
            order[at] = n;
            filled = n + 1;
            return n;
        }

        void takeBack(int n, int knownOn) {
            gone[n] = knownOn;
            withdrawn++;
        }

        boolean counts(int n, int what, int asOf) {
            return thing[n] == what && known[n] <= asOf && asOf < gone[n];
        }

        int lastPlace(int what, int on, int asOf) {
            int place = NONE;
            for (int at = 0; at < filled; at++) {
                int n = order[at];
                if (day[n] <= on && counts(n, what, asOf)) {
                    place = other[n];
                }
            }
            return place;
        }

        int quarrelDays(int what, int asOf) {
            int days = 0;
            int on = -1;
            int place = -1;
            boolean quarrel = false;
            for (int at = 0; at < filled; at++) {
                int n = order[at];
                if (counts(n, what, asOf)) {
                    if (day[n] != on) {
                        on = day[n];
                        place = other[n];
                        quarrel = false;
                    } else if (other[n] != place && !quarrel) {
                        quarrel = true;
                        days++;
                    }
                }
            }
            return days;
        }

        /** The last known day, not behind the one told, on which a record of the thing came or went; else 0. */
        int lastChange(int what, int asOf) {
            int last = 0;
            for (int n = 0; n < filled; n++) {
                if (thing[n] == what) {
                    if (known[n] <= asOf) {
                        last = Math.max(last, known[n]);
                    }
                    if (gone[n] <= asOf) {
                        last = Math.max(last, gone[n]);
                    }
                }
            }
            return last;
        }
    }

    /** Who holds and owns a thing, found by going through its moves. */
    private static final class Holding {
        final int[] lenders = new int[RECORDS];
        int lent = 0;
        int holder = NONE;
        int owner = NONE;
        boolean stolen = false;

        void replay(Records moves, int thing, int day, int known) {
            lent = 0;
            holder = NONE;
            owner = NONE;
            stolen = false;
            for (int at = 0; at < moves.filled; at++) {
                int n = moves.order[at];
                if (moves.day[n] <= day && moves.counts(n, thing, known)) {
                    follow(moves.sort[n], moves.other[n]);
                }
            }
        }

        private void follow(int sort, int person) {
            if (sort == LENT) {
                lenders[lent] = holder;
                lent++;
                holder = person;
            } else if (sort == BACK) {
                if (lent > 0) {
                    lent--;
                    holder = lenders[lent];
                }
            } else {
                lent = 0;
                holder = person;
                stolen = sort == TAKEN;
                owner = stolen ? NONE : person;
            }
        }

        int heldSince(Records moves, int thing, int day, int known) {
            replay(moves, thing, day, known);
            int now = holder;
            int last = known;
            // Each step goes behind a day on which a record came or went: two for each record at most.
            for (int step = 0; step <= 2 * RECORDS; step++) {
                int change = moves.lastChange(thing, last);
                if (change == 0) {
                    return 0;
                }
                replay(moves, thing, day, change - 1);
                if (holder != now) {
                    return change;
                }
                last = change - 1;
            }
            return 0;
        }
    }

    /** Visitors' words. */
    private static final class Sayings {
        final int[] sort = new int[SAYINGS];
        final int[] x = new int[SAYINGS];
        final int[] y = new int[SAYINGS];
        final int[] trust = new int[SAYINGS];
        int filled = 0;

        int addSaying(int kind, int one, int other, int weight) {
            int n = filled;
            sort[n] = kind;
            x[n] = one;
            y[n] = other;
            trust[n] = weight;
            filled = n + 1;
            return n;
        }
    }

    /**
     * Finds the best row of a shelf. Things stand here by their place in the set; a state is the set of those
     * that stand already and the rightmost of these; best holds the most that the rest can bring from there.
     */
    private static final class Shelf {
        private static final int SETS = 1 << SHELF_THINGS;

        final int[] things = new int[SHELF_THINGS];
        final int[] placeOf = new int[THINGS];
        final int[] leftOf = new int[SHELF_THINGS * SHELF_THINGS];
        final int[] beside = new int[SHELF_THINGS * SHELF_THINGS];
        final int[] leftEnd = new int[SHELF_THINGS];
        final int[] rightEnd = new int[SHELF_THINGS];
        final int[] gains = new int[SHELF_THINGS];
        final int[] best = new int[SETS * SHELF_THINGS];
        final int[] told = new int[SHELF_THINGS];
        int size = 0;
        int total = 0;
        int sum = 0;
        int builtSet = 0;
        int builtSayings = 0;

        void rebuild(int set, Sayings sayings) {
            if (set == builtSet && sayings.filled == builtSayings) {
                return;
            }
            builtSet = set;
            builtSayings = sayings.filled;
            readThings(set);
            clearTrust();
            total = 0;
            for (int n = 0; n < sayings.filled; n++) {
                if ((set >> sayings.x[n] & 1) != 0 && (set >> sayings.y[n] & 1) != 0) {
                    total += sayings.trust[n];
                    addTrust(sayings.sort[n], placeOf[sayings.x[n]], placeOf[sayings.y[n]], sayings.trust[n]);
                }
            }
            weighStates();
            tellRow();
        }

        private void readThings(int set) {
            size = 0;
            for (int thing = 0; thing < THINGS; thing++) {
                if ((set >> thing & 1) != 0 && size < SHELF_THINGS) {
                    things[size] = thing;
                    placeOf[thing] = size;
                    size++;
                }
            }
        }

        private void clearTrust() {
            for (int pair = 0; pair < leftOf.length; pair++) {
                leftOf[pair] = 0;
                beside[pair] = 0;
            }
            for (int place = 0; place < SHELF_THINGS; place++) {
                leftEnd[place] = 0;
                rightEnd[place] = 0;
            }
        }

        private void addTrust(int sort, int one, int other, int trust) {
            if (sort == LEFT_OF) {
                leftOf[one * SHELF_THINGS + other] += trust;
            } else if (sort == BESIDE) {
                beside[one * SHELF_THINGS + other] += trust;
                beside[other * SHELF_THINGS + one] += trust;
            } else if (sort == LEFT_END) {
                leftEnd[one] += trust;
            } else {
                rightEnd[one] += trust;
            }
        }

        private void weighStates() {
            int whole = (1 << size) - 1;
            for (int last = 0; last < size; last++) {
                best[whole * SHELF_THINGS + last] = 0;
            }
            for (int standing = whole - 1; standing > 0; standing--) {
                readGains(standing);
                for (int last = 0; last < size; last++) {
                    if ((standing >> last & 1) != 0) {
                        best[standing * SHELF_THINGS + last] = weighState(standing, last);
                    }
                }
            }
            readGains(0);
            sum = weighState(0, 0);
        }

        /** What each thing that stands not yet brings if it comes next, but for what stands beside it. */
        private void readGains(int standing) {
            int whole = (1 << size) - 1;
            for (int next = 0; next < size; next++) {
                int gain = standing == 0 ? leftEnd[next] : 0;
                if ((standing | 1 << next) == whole) {
                    gain += rightEnd[next];
                }
                for (int left = 0; left < size; left++) {
                    if ((standing >> left & 1) != 0) {
                        gain += leftOf[left * SHELF_THINGS + next];
                    }
                }
                gains[next] = gain;
            }
        }

        private int weighState(int standing, int last) {
            int most = 0;
            for (int next = 0; next < size; next++) {
                if ((standing >> next & 1) == 0) {
                    most = Math.max(most, valueOf(standing, last, next));
                }
            }
            return most;
        }

        private int valueOf(int standing, int last, int next) {
            int value = gains[next] + best[(standing | 1 << next) * SHELF_THINGS + next];
            return standing == 0 ? value : value + beside[last * SHELF_THINGS + next];
        }

        private void tellRow() {
            int standing = 0;
            int last = 0;
            for (int place = 0; place < size; place++) {
                readGains(standing);
                int next = firstBest(standing, last);
                told[place] = things[next];
                standing |= 1 << next;
                last = next;
            }
        }

        private int firstBest(int standing, int last) {
            int most = weighState(standing, last);
            for (int next = 0; next < size; next++) {
                if ((standing >> next & 1) == 0 && valueOf(standing, last, next) == most) {
                    return next;
                }
            }
            return 0;
        }
    }

    /** Parts, their kinds, and which kinds clash. */
    private static final class Beasts {
        final int[] kind = new int[PARTS];
        // For each kind the bits of those that it clashes with.
        final int[] foes = new int[KINDS];
        int clashes = 0;

        int tellKind(int p, int k) {
            int was = kind[p];
            kind[p] = k;
            return was;
        }

        /** Whether it was not so already. */
        boolean tellClash(int a, int b, boolean on) {
            boolean was = (foes[a] >> b & 1) != 0;
            if (was == on) {
                return false;
            }
            foes[a] ^= 1 << b;
            foes[b] ^= 1 << a;
            clashes += on ? 1 : -1;
            return true;
        }

        boolean isFake(int beast) {
            int kinds = 0;
            int hated = 0;
            for (int p = 0; p < PARTS; p++) {
                if ((beast >> p & 1) != 0) {
                    kinds |= 1 << kind[p];
                    hated |= foes[kind[p]];
                }
            }
            return (kinds & hated) != 0;
        }

        int leastWithout(int beast) {
            int least = beast;
            // Sets come by their bits upward, so a later one must be of fewer parts.
            for (int set = 0; set < beast; set++) {
                boolean isPart = (set & beast) == set;
                if (isPart && Integer.bitCount(set) < Integer.bitCount(least) && !isFake(beast & ~set)) {
                    least = set;
                }
            }
            return least;
        }
    }
}
