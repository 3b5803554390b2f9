import java.util.ArrayList;
import java.util.Comparator;
import java.util.List;
import java.util.Random;
import java.util.TreeSet;

/**
 * Random runs of calls, each answered a second time by a plain book that tries every joining, row, set and day.
 * The seeds are fixed, so a failure comes again.
 */
public final class OracleTest {
    private static final int SHOWN = 20;
    private static int wrong = 0;

    public static void main(String[] args) {
        for (int seed = 0; seed < 400; seed++) {
            new Run(seed).go();
        }
        System.out.println(wrong == 0 ? "all answers are those of the plain book" : wrong + " answers differ");
        if (wrong != 0) {
            System.exit(1);
        }
    }

    /** One run of 512 calls; each seed leans to one part of the document. */
    private static final class Run {
        final int seed;
        final Random random;
        final CabinetBooks books = new CabinetBooks();
        final Plain plain = new Plain();
        // Full catalogues of which few entries can be joined, since the plain book tries all joinings.
        final boolean full;
        final int most;
        final boolean tight;

        Run(int seed) {
            this.seed = seed;
            this.random = new Random(seed);
            this.full = seed % 10 == 5;
            this.most = full ? 10 : 2 + random.nextInt(4);
            this.tight = random.nextBoolean();
        }

        void go() {
            for (int call = 0; call < 512; call++) {
                int lean = seed % 5 == 4 ? random.nextInt(4) : seed % 5;
                switch (random.nextInt(12) == 0 ? random.nextInt(4) : lean) {
                    case 0 -> catalogueCall(call);
                    case 1 -> recordCall(call);
                    case 2 -> shelfCall(call);
                    default -> beastCall(call);
                }
                if (random.nextInt(8) == 0) {
                    int what = random.nextInt(20) - 1;
                    check(call, "count(" + what + ")", books.count(what), plain.count(what));
                }
            }
        }

        void check(int call, String text, int got, int want) {
            if (got != want) {
                wrong++;
                if (wrong <= SHOWN) {
                    System.out.println("seed " + seed + ", call " + call + ": " + text + " answered " + got
                            + ", due is " + want);
                }
            }
        }

        /** Mostly from 0 to n - 1, at times one beside these, seldom one far off. */
        int upTo(int n) {
            int luck = random.nextInt(60);
            if (luck == 0) {
                return -1;
            }
            if (luck == 1) {
                return n;
            }
            if (luck == 2) {
                return random.nextInt();
            }
            return random.nextInt(n);
        }

        void catalogueCall(int call) {
            int a = upTo(4);
            int b = random.nextInt(12) == 0 ? a : upTo(4);
            int i = upTo(most);
            int k = upTo(most);
            switch (random.nextInt(16)) {
                case 0 -> {
                    if (full) {
                        return;
                    }
                    int w = upTo(20);
                    int o = random.nextInt(5) == 0 ? w : upTo(6);
                    check(call, "means(" + w + ", " + o + ")", books.means(w, o), plain.means(w, o));
                }
                case 1 -> {
                    int w = upTo(20);
                    check(call, "sense(" + w + ")", books.sense(w), plain.sense(w));
                }
                case 2 -> {
                    int y = random.nextInt(5) == 0 ? 1499 + upTo(403) : 1500 + random.nextInt(4);
                    check(call, "year(" + a + ", " + y + ")", books.year(a, y), plain.year(a, y));
                }
                case 3, 4, 5 -> entryCall(call, a);
                case 6 -> {
                    int what = upTo(2);
                    int v = random.nextInt(2) == 0 ? upTo(51) : upTo(10);
                    check(call, "set(" + what + ", " + v + ")", books.set(what, v), plain.set(what, v));
                }
                case 7 -> check(call, "bar(" + a + ", " + i + ", " + b + ", " + k + ")",
                        books.bar(a, i, b, k), plain.bar(a, i, b, k));
                case 8, 9 -> check(call, "like(" + a + ", " + i + ", " + b + ", " + k + ")",
                        books.like(a, i, b, k), plain.like(a, i, b, k));
                case 10 -> check(call, "join(" + a + ", " + b + ")", books.join(a, b), plain.join(a, b));
                case 11 -> check(call, "joined(" + a + ", " + i + ", " + b + ")",
                        books.joined(a, i, b), plain.joined(a, i, b));
                case 12 -> check(call, "bests(" + a + ", " + b + ")", books.bests(a, b), plain.bests(a, b));
                case 13 -> check(call, "sure(" + a + ", " + i + ", " + b + ")",
                        books.sure(a, i, b), plain.sure(a, i, b));
                case 14 -> {
                    int way = way();
                    int what = upTo(3);
                    check(call, "chain(" + a + ", " + i + ", " + way + ", " + what + ")",
                            books.chain(a, i, way, what), plain.chain(a, i, way, what));
                }
                default -> check(call, "copied(" + a + ", " + b + ", " + k + ")",
                        books.copied(a, b, k), plain.copied(a, b, k));
            }
        }

        int way() {
            int digits = random.nextInt(20) == 0 ? 4 : 1 + random.nextInt(3);
            int way = 0;
            for (int d = 0; d < digits; d++) {
                way = way * 10 + (random.nextInt(20) == 0 ? random.nextInt(10) : 1 + random.nextInt(4));
            }
            return random.nextInt(30) == 0 ? -way : way;
        }

        void entryCall(int call, int c) {
            if (!full && c >= 0 && c < 4 && plain.count(c) >= most) {
                return;
            }
            int words = random.nextInt(30) == 0 ? random.nextInt() : 1 + random.nextInt(tight ? 3 : 31);
            if (full) {
                words = 1 << random.nextInt(10);
            }
            if (random.nextInt(30) == 0) {
                words = 0;
            }
            int size = random.nextInt(20) == 0 ? upTo(202) : 40 + random.nextInt(tight ? 2 : 8);
            int room = tight ? 0 : upTo(3);
            int colour = random.nextInt(20) == 0 ? upTo(100) : 50 - random.nextInt(tight ? 2 : 10);
            check(call, "entry(" + c + ", " + words + ", " + size + ", " + room + ", " + colour + ")",
                    books.entry(c, words, size, room, colour), plain.entry(c, words, size, room, colour));
        }

        int day() {
            int luck = random.nextInt(80);
            if (luck == 0) {
                return -1 - random.nextInt(3);
            }
            if (luck == 1) {
                return 80000 + random.nextInt(3);
            }
            return random.nextInt(tight ? 6 : 30);
        }

        void recordCall(int call) {
            int thing = upTo(random.nextInt(10) == 0 ? 12 : 2);
            int other = upTo(random.nextInt(10) == 0 ? 8 : 3);
            int day = day();
            int known = day();
            switch (random.nextInt(10)) {
                case 0, 1 -> check(call, "sight(" + thing + ", " + other + ", " + day + ", " + known + ")",
                        books.sight(thing, other, day, known), plain.sight(thing, other, day, known));
                case 2, 3 -> {
                    int sort = upTo(5);
                    check(call, "move(" + thing + ", " + other + ", " + day + ", " + sort + ", " + known + ")",
                            books.move(thing, other, day, sort, known), plain.move(thing, other, day, sort, known));
                }
                case 4 -> {
                    boolean sight = random.nextBoolean();
                    int n = upTo(random.nextInt(4) == 0 ? 60 : 10);
                    check(call, "withdraw(" + sight + ", " + n + ", " + known + ")",
                            books.withdraw(sight, n, known), plain.withdraw(sight, n, known));
                }
                case 5 -> check(call, "where(" + thing + ", " + day + ", " + known + ")",
                        books.where(thing, day, known), plain.where(thing, day, known));
                case 6 -> check(call, "quarrels(" + thing + ", " + known + ")",
                        books.quarrels(thing, known), plain.quarrels(thing, known));
                case 7, 8 -> {
                    int what = upTo(3);
                    check(call, "holds(" + thing + ", " + day + ", " + known + ", " + what + ")",
                            books.holds(thing, day, known, what), plain.holds(thing, day, known, what));
                }
                default -> check(call, "since(" + thing + ", " + day + ", " + known + ")",
                        books.since(thing, day, known), plain.since(thing, day, known));
            }
        }

        void shelfCall(int call) {
            if (random.nextInt(6) == 0) {
                int sort = upTo(4);
                int x = upTo(tight ? 4 : 12);
                int y = random.nextInt(12) == 0 ? x : upTo(tight ? 4 : 12);
                int trust = upTo(10);
                check(call, "visitor(" + sort + ", " + x + ", " + y + ", " + trust + ")",
                        books.visitor(sort, x, y, trust), plain.visitor(sort, x, y, trust));
                return;
            }
            int set = random.nextInt(random.nextInt(8) == 0 ? 1 << 13 : 1 << 12);
            if (Integer.bitCount(set) > 6 && random.nextInt(30) != 0) {
                set &= random.nextInt();
            }
            switch (random.nextInt(3)) {
                case 0 -> check(call, "shelf(" + set + ")", books.shelf(set), plain.shelf(set));
                case 1 -> {
                    for (int k = -1; k < 9; k++) {
                        check(call, "row(" + set + ", " + k + ")", books.row(set, k), plain.row(set, k));
                    }
                }
                default -> check(call, "quarrel(" + set + ")", books.quarrel(set), plain.quarrel(set));
            }
        }

        void beastCall(int call) {
            int beast = random.nextInt(40) == 0 ? random.nextInt() : random.nextInt(1024);
            switch (random.nextInt(4)) {
                case 0 -> {
                    int p = upTo(10);
                    int kind = upTo(6);
                    check(call, "part(" + p + ", " + kind + ")", books.part(p, kind), plain.part(p, kind));
                }
                case 1 -> {
                    int a = upTo(6);
                    int b = upTo(6);
                    boolean on = random.nextBoolean();
                    check(call, "clash(" + a + ", " + b + ", " + on + ")",
                            books.clash(a, b, on), plain.clash(a, b, on));
                }
                case 2 -> check(call, "fake(" + beast + ")", books.fake(beast), plain.fake(beast));
                default -> check(call, "least(" + beast + ")", books.least(beast), plain.least(beast));
            }
        }
    }

    private record Entry(int words, int size, int room, int colour) { }

    private record Saying(int sort, int x, int y, int trust) { }

    private static final class Rec {
        int number;
        int thing;
        int other;
        int day;
        int sort;
        int known;
        int gone = Integer.MAX_VALUE;
    }

    /** The document's words, done the long way. */
    private static final class Plain {
        final int[] refused = new int[7];
        final int[] meant = new int[20];
        final int[] years = {1500, 1500, 1500, 1500};
        final List<List<Entry>> catalogues = new ArrayList<>();
        final TreeSet<String> bars = new TreeSet<>();
        int spare = 5;
        int fade = 1;
        final List<Rec> sights = new ArrayList<>();
        final List<Rec> moves = new ArrayList<>();
        final List<Saying> sayings = new ArrayList<>();
        final int[] kinds = new int[10];
        final TreeSet<Integer> clashes = new TreeSet<>();

        Plain() {
            for (int w = 0; w < 20; w++) {
                meant[w] = w;
            }
            for (int c = 0; c < 4; c++) {
                catalogues.add(new ArrayList<>());
            }
        }

        int no(int number) {
            refused[-number]++;
            return number;
        }

        static boolean in(int v, int n) {
            return 0 <= v && v < n;
        }

        boolean entryThere(int c, int i) {
            return in(c, 4) && in(i, catalogues.get(c).size());
        }

        int means(int word, int other) {
            if (!in(word, 20) || !in(other, 20)) {
                return no(-1);
            }
            if (other > word) {
                return no(-4);
            }
            int was = meant[word];
            meant[word] = other;
            return was;
        }

        int senseOf(int word) {
            return meant[word] == word ? word : senseOf(meant[word]);
        }

        int sense(int word) {
            return in(word, 20) ? senseOf(word) : no(-1);
        }

        int year(int c, int y) {
            if (!in(c, 4)) {
                return no(-1);
            }
            if (y < 1500 || y > 1900) {
                return no(y < 1500 ? -4 : -6);
            }
            int was = years[c];
            years[c] = y;
            return was;
        }

        int entry(int c, int words, int size, int room, int colour) {
            if (!in(c, 4) || (words & ~0xFFFFF) != 0) {
                return no(-1);
            }
            if (words == 0 || size < 1 || room < 0 || colour < 0) {
                return no(-4);
            }
            if (size > 200 || room > 9 || colour > 99 || catalogues.get(c).size() == 10) {
                return no(-6);
            }
            catalogues.get(c).add(new Entry(words, size, room, colour));
            return catalogues.get(c).size() - 1;
        }

        int set(int what, int v) {
            if (!in(what, 2)) {
                return no(-2);
            }
            if (v < 0) {
                return no(-4);
            }
            if (v > (what == 0 ? 50 : 9)) {
                return no(-6);
            }
            int was = what == 0 ? spare : fade;
            if (what == 0) {
                spare = v;
            } else {
                fade = v;
            }
            return was;
        }

        static String barName(int a, int i, int b, int k) {
            return a < b ? a + "." + i + "-" + b + "." + k : b + "." + k + "-" + a + "." + i;
        }

        int bar(int a, int i, int b, int k) {
            if (a == b || !entryThere(a, i) || !entryThere(b, k)) {
                return no(-1);
            }
            String name = barName(a, i, b, k);
            if (bars.contains(name)) {
                return 0;
            }
            if (bars.size() == 30) {
                return no(-6);
            }
            bars.add(name);
            return 1;
        }

        TreeSet<Integer> sensesOf(Entry e) {
            TreeSet<Integer> senses = new TreeSet<>();
            for (int w = 0; w < 20; w++) {
                if ((e.words() & 1 << w) != 0) {
                    senses.add(senseOf(w));
                }
            }
            return senses;
        }

        int likeness(int a, int i, int b, int k) {
            Entry e = catalogues.get(a).get(i);
            Entry f = catalogues.get(b).get(k);
            TreeSet<Integer> both = sensesOf(e);
            both.retainAll(sensesOf(f));
            TreeSet<Integer> all = sensesOf(e);
            all.addAll(sensesOf(f));
            int apart = Math.abs(e.size() - f.size());
            boolean aFirst = years[a] < years[b] || years[a] == years[b] && a < b;
            Entry early = aFirst ? e : f;
            Entry late = aFirst ? f : e;
            int y = Math.abs(years[a] - years[b]);
            if (apart > spare || both.isEmpty() || bars.contains(barName(a, i, b, k))
                    || late.colour() > early.colour() || late.colour() < early.colour() - (y * fade + 5)) {
                return 0;
            }
            int sum = 10 * both.size() - 2 * (all.size() - both.size()) - apart + (e.room() == f.room() ? 7 : 0);
            return sum < 1 ? 1 : sum;
        }

        int like(int a, int i, int b, int k) {
            return a == b || !entryThere(a, i) || !entryThere(b, k) ? no(-1) : likeness(a, i, b, k);
        }

        /** All best joinings; each has for each entry of a the one of b, or 99 for none; in the document's order. */
        List<int[]> bestsOf(int a, int b) {
            List<int[]> found = new ArrayList<>();
            int n = catalogues.get(a).size();
            int m = catalogues.get(b).size();
            int[][] likes = new int[n][m];
            for (int i = 0; i < n; i++) {
                for (int k = 0; k < m; k++) {
                    likes[i][k] = likeness(a, i, b, k);
                }
            }
            tryAll(likes, m, new int[n], 0, 0, new int[] {-1}, found);
            return found;
        }

        void tryAll(int[][] likes, int m, int[] row, int i, int sum, int[] best, List<int[]> found) {
            if (i == row.length) {
                if (sum > best[0]) {
                    best[0] = sum;
                    found.clear();
                }
                if (sum == best[0]) {
                    found.add(row.clone());
                }
                return;
            }
            for (int k = 0; k < m; k++) {
                boolean taken = false;
                for (int j = 0; j < i; j++) {
                    taken |= row[j] == k;
                }
                if (!taken && likes[i][k] > 0) {
                    row[i] = k;
                    tryAll(likes, m, row, i + 1, sum + likes[i][k], best, found);
                }
            }
            row[i] = 99;
            tryAll(likes, m, row, i + 1, sum, best, found);
        }

        int partnerOf(int a, int i, int b) {
            int k = bestsOf(a, b).get(0)[i];
            return k == 99 ? -9 : k;
        }

        boolean isSure(int a, int i, int b) {
            int k = partnerOf(a, i, b);
            for (int[] row : bestsOf(a, b)) {
                if (row[i] != k) {
                    return false;
                }
            }
            return true;
        }

        boolean twoThere(int a, int b) {
            return in(a, 4) && in(b, 4) && a != b;
        }

        int join(int a, int b) {
            if (!twoThere(a, b)) {
                return no(-1);
            }
            int[] row = bestsOf(a, b).get(0);
            int sum = 0;
            for (int i = 0; i < row.length; i++) {
                sum += row[i] == 99 ? 0 : likeness(a, i, b, row[i]);
            }
            return sum;
        }

        int joined(int a, int i, int b) {
            return !twoThere(a, b) || !entryThere(a, i) ? no(-1) : partnerOf(a, i, b);
        }

        int bests(int a, int b) {
            return twoThere(a, b) ? Math.min(1000000, bestsOf(a, b).size()) : no(-1);
        }

        int sure(int a, int i, int b) {
            if (!twoThere(a, b) || !entryThere(a, i)) {
                return no(-1);
            }
            return isSure(a, i, b) ? 1 : 0;
        }

        int chain(int a, int i, int way, int what) {
            String digits = String.valueOf(way);
            String route = (a + 1) + digits;
            boolean good = entryThere(a, i) && digits.matches("[1-4]{1,3}");
            if (!good || route.chars().distinct().count() != route.length()) {
                return no(-1);
            }
            if (!in(what, 3)) {
                return no(-2);
            }
            int at = i;
            int steps = 0;
            int doubt = 0;
            for (int s = 1; s < route.length() && at != -9; s++) {
                int from = route.charAt(s - 1) - '1';
                int to = route.charAt(s) - '1';
                int next = partnerOf(from, at, to);
                if (next != -9) {
                    steps++;
                    doubt += Math.max(0, 100 - likeness(from, at, to, next));
                    doubt += isSure(from, at, to) ? 0 : 50;
                }
                at = next;
            }
            return what == 0 ? at : what == 1 ? steps : doubt;
        }

        int copied(int a, int b, int k) {
            if (!in(a, 4) || !entryThere(b, k)) {
                return no(-1);
            }
            if (years[b] <= years[a]) {
                return no(-3);
            }
            Entry copy = catalogues.get(b).get(k);
            for (int i = 0; i < catalogues.get(a).size(); i++) {
                Entry e = catalogues.get(a).get(i);
                if (e.words() == copy.words() && e.size() == copy.size() && partnerOf(a, i, b) != k) {
                    return i;
                }
            }
            return -9;
        }

        static int daysWrong(int... days) {
            int bad = 0;
            for (int d : days) {
                if (d < 0) {
                    return -4;
                }
                if (d > 80000) {
                    bad = -6;
                }
            }
            return bad;
        }

        int add(List<Rec> list, int thing, int other, int day, int sort, int known) {
            Rec r = new Rec();
            r.number = list.size();
            r.thing = thing;
            r.other = other;
            r.day = day;
            r.sort = sort;
            r.known = known;
            list.add(r);
            return r.number;
        }

        int sight(int thing, int place, int day, int known) {
            if (!in(thing, 12) || !in(place, 8)) {
                return no(-1);
            }
            int bad = daysWrong(day, known);
            if (bad == 0 && sights.size() == 60) {
                bad = -6;
            }
            return bad != 0 ? no(bad) : add(sights, thing, place, day, 0, known);
        }

        int move(int thing, int person, int day, int sort, int known) {
            if (!in(thing, 12) || !in(person, 8)) {
                return no(-1);
            }
            if (!in(sort, 5)) {
                return no(-2);
            }
            int bad = daysWrong(day, known);
            if (bad == 0 && moves.size() == 60) {
                bad = -6;
            }
            return bad != 0 ? no(bad) : add(moves, thing, person, day, sort, known);
        }

        int withdraw(boolean sight, int n, int known) {
            List<Rec> list = sight ? sights : moves;
            if (!in(n, list.size())) {
                return no(-1);
            }
            Rec r = list.get(n);
            if (r.gone != Integer.MAX_VALUE) {
                return no(-3);
            }
            if (known < r.known) {
                return no(-4);
            }
            if (known > 80000) {
                return no(-6);
            }
            r.gone = known;
            return 1;
        }

        List<Rec> asOf(List<Rec> list, int thing, int day, int known) {
            List<Rec> found = new ArrayList<>();
            for (Rec r : list) {
                if (r.thing == thing && r.day <= day && known >= r.known && known < r.gone) {
                    found.add(r);
                }
            }
            found.sort(Comparator.comparingInt((Rec r) -> r.day).thenComparingInt(r -> r.number));
            return found;
        }

        int where(int thing, int day, int known) {
            if (!in(thing, 12)) {
                return no(-1);
            }
            int bad = daysWrong(day, known);
            if (bad != 0) {
                return no(bad);
            }
            List<Rec> seen = asOf(sights, thing, day, known);
            return seen.isEmpty() ? -9 : seen.get(seen.size() - 1).other;
        }

        int quarrels(int thing, int known) {
            if (!in(thing, 12)) {
                return no(-1);
            }
            int bad = daysWrong(known);
            if (bad != 0) {
                return no(bad);
            }
            TreeSet<Integer> days = new TreeSet<>();
            List<Rec> seen = asOf(sights, thing, 80000, known);
            for (Rec r : seen) {
                for (Rec s : seen) {
                    if (r.day == s.day && r.other != s.other) {
                        days.add(r.day);
                    }
                }
            }
            return days.size();
        }

        int holderOf(int thing, int day, int known) {
            List<Integer> had = new ArrayList<>(List.of(-9));
            for (Rec r : asOf(moves, thing, day, known)) {
                if (r.sort == 3) {
                    had.add(r.other);
                } else if (r.sort == 4) {
                    if (had.size() > 1) {
                        had.remove(had.size() - 1);
                    }
                } else {
                    had = new ArrayList<>(List.of(r.other));
                }
            }
            return had.get(had.size() - 1);
        }

        int holds(int thing, int day, int known, int what) {
            if (!in(thing, 12)) {
                return no(-1);
            }
            if (!in(what, 3)) {
                return no(-2);
            }
            int bad = daysWrong(day, known);
            if (bad != 0) {
                return no(bad);
            }
            if (what == 0) {
                return holderOf(thing, day, known);
            }
            List<Rec> list = asOf(moves, thing, day, known);
            list.removeIf(r -> r.sort > 2);
            Rec last = list.isEmpty() ? null : list.get(list.size() - 1);
            boolean taken = last != null && last.sort == 2;
            if (what == 2) {
                return taken ? 1 : 0;
            }
            return last == null || taken ? -9 : last.other;
        }

        int since(int thing, int day, int known) {
            if (!in(thing, 12)) {
                return no(-1);
            }
            int bad = daysWrong(day, known);
            if (bad != 0) {
                return no(bad);
            }
            int holder = holderOf(thing, day, known);
            int first = known;
            while (first > 0 && holderOf(thing, day, first - 1) == holder) {
                first--;
            }
            return first;
        }

        int visitor(int sort, int x, int y, int trust) {
            if (!in(sort, 4)) {
                return no(-2);
            }
            if (!in(x, 12) || sort < 2 && (!in(y, 12) || x == y)) {
                return no(-1);
            }
            if (trust < 1) {
                return no(-4);
            }
            if (trust > 9 || sayings.size() == 40) {
                return no(-6);
            }
            sayings.add(new Saying(sort, x, y, trust));
            return sayings.size() - 1;
        }

        int shelfWrong(int set) {
            if (set == 0 || (set & ~4095) != 0) {
                return -1;
            }
            return Integer.bitCount(set) > 8 ? -6 : 0;
        }

        static boolean isOn(int set, Saying s) {
            return (set >> s.x() & 1) != 0 && (s.sort() > 1 || (set >> s.y() & 1) != 0);
        }

        static int placeIn(int[] row, int thing) {
            for (int p = 0; p < row.length; p++) {
                if (row[p] == thing) {
                    return p;
                }
            }
            return -1;
        }

        int trustIn(int[] row, List<Saying> said) {
            int sum = 0;
            for (Saying s : said) {
                int p = placeIn(row, s.x());
                boolean holds = switch (s.sort()) {
                    case 0 -> p < placeIn(row, s.y());
                    case 1 -> Math.abs(p - placeIn(row, s.y())) == 1;
                    case 2 -> p == 0;
                    default -> p == row.length - 1;
                };
                sum += holds ? s.trust() : 0;
            }
            return sum;
        }

        int builtSet = 0;
        int builtSayings = -1;
        int[] built = new int[0];

        /** The best row of all, tried in the order of things from the left. */
        int[] rowOf(int set) {
            if (set != builtSet || sayings.size() != builtSayings) {
                List<Saying> said = new ArrayList<>(sayings);
                said.removeIf(s -> !isOn(set, s));
                built = new int[Integer.bitCount(set)];
                tryRows(set, new int[built.length], 0, said, new int[] {-1});
                builtSet = set;
                builtSayings = sayings.size();
            }
            return built;
        }

        void tryRows(int left, int[] row, int at, List<Saying> said, int[] best) {
            if (left == 0) {
                int sum = trustIn(row, said);
                if (sum > best[0]) {
                    best[0] = sum;
                    built = row.clone();
                }
                return;
            }
            for (int thing = 0; thing < 12; thing++) {
                if ((left >> thing & 1) != 0) {
                    row[at] = thing;
                    tryRows(left & ~(1 << thing), row, at + 1, said, best);
                }
            }
        }

        int shelf(int set) {
            int bad = shelfWrong(set);
            if (bad != 0) {
                return no(bad);
            }
            List<Saying> said = new ArrayList<>(sayings);
            said.removeIf(s -> !isOn(set, s));
            return trustIn(rowOf(set), said);
        }

        int row(int set, int k) {
            int bad = shelfWrong(set);
            if (bad != 0) {
                return no(bad);
            }
            int[] row = rowOf(set);
            return in(k, row.length) ? row[k] : -9;
        }

        int quarrel(int set) {
            int bad = shelfWrong(set);
            if (bad != 0) {
                return no(bad);
            }
            int all = 0;
            for (Saying s : sayings) {
                all += isOn(set, s) ? s.trust() : 0;
            }
            return all - shelf(set);
        }

        int part(int p, int kind) {
            if (!in(p, 10)) {
                return no(-1);
            }
            if (!in(kind, 6)) {
                return no(kind < 0 ? -4 : -6);
            }
            int was = kinds[p];
            kinds[p] = kind;
            return was;
        }

        int clash(int a, int b, boolean on) {
            if (a < 0 || b < 0) {
                return no(-4);
            }
            if (a > 5 || b > 5) {
                return no(-6);
            }
            if (a == b) {
                return no(-3);
            }
            int pair = Math.min(a, b) * 10 + Math.max(a, b);
            return (on ? clashes.add(pair) : clashes.remove(pair)) ? 1 : 0;
        }

        boolean isFake(int beast) {
            for (int p = 0; p < 10; p++) {
                for (int q = 0; q < 10; q++) {
                    if ((beast >> p & 1) != 0 && (beast >> q & 1) != 0 && clashes.contains(kinds[p] * 10 + kinds[q])) {
                        return true;
                    }
                }
            }
            return false;
        }

        int fake(int beast) {
            if ((beast & ~1023) != 0) {
                return no(-1);
            }
            return isFake(beast) ? 1 : 0;
        }

        int least(int beast) {
            if ((beast & ~1023) != 0) {
                return no(-1);
            }
            for (int parts = 0; parts <= 10; parts++) {
                for (int set = 0; set < 1024; set++) {
                    if (Integer.bitCount(set) == parts && (set & ~beast) == 0 && !isFake(beast & ~set)) {
                        return set;
                    }
                }
            }
            return -99;
        }

        int count(int what) {
            int gone = 0;
            for (Rec r : sights) {
                gone += r.gone != Integer.MAX_VALUE ? 1 : 0;
            }
            for (Rec r : moves) {
                gone += r.gone != Integer.MAX_VALUE ? 1 : 0;
            }
            return switch (what) {
                case 0, 1, 2, 3 -> catalogues.get(what).size();
                case 4 -> sights.size();
                case 5 -> moves.size();
                case 6 -> sayings.size();
                case 7 -> bars.size();
                case 8 -> clashes.size();
                case 9 -> gone;
                case 11, 12, 13, 14, 15, 16 -> refused[what - 10];
                default -> -9;
            };
        }
    }
}
