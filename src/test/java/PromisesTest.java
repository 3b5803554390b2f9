/** For each promise of the document: ordinary calls, the edges that it names, and wrong inputs. */
public final class PromisesTest {
    private static int wrong = 0;
    private static int promise = 0;

    private static void due(String what, int got, int want) {
        if (got != want) {
            wrong++;
            System.out.println("promise " + promise + ": " + what + " answered " + got + ", due is " + want);
        }
    }

    public static void main(String[] args) {
        newObject();
        means();
        sense();
        year();
        entry();
        set();
        bar();
        likeWordsSizesRooms();
        likeColours();
        join();
        joined();
        bests();
        sure();
        chain();
        copied();
        sight();
        move();
        withdraw();
        where();
        quarrels();
        holder();
        ownerAndStolen();
        since();
        visitor();
        shelf();
        rowAndQuarrel();
        part();
        clash();
        fake();
        least();
        count();
        refusalsChangeNothing();
        System.out.println(wrong == 0 ? "all promises hold" : wrong + " answers are not as due");
        if (wrong != 0) {
            System.exit(1);
        }
    }

    private static void newObject() {
        promise = 1;
        CabinetBooks x = new CabinetBooks();
        for (int what = -1; what <= 17; what++) {
            boolean counted = what >= 0 && what <= 16 && what != 10;
            due("count(" + what + ")", x.count(what), counted ? 0 : -9);
        }
        for (int word = 0; word < 20; word++) {
            due("sense(" + word + ")", x.sense(word), word);
        }
        for (int c = 0; c < 4; c++) {
            due("year", x.year(c, 1900), 1500);
        }
        due("set(0)", x.set(0, 0), 5);
        due("set(1)", x.set(1, 0), 1);
        for (int p = 0; p < 10; p++) {
            due("part", x.part(p, 0), 0);
        }
        due("fake(1023)", x.fake(1023), 0);
        due("shelf(255)", x.shelf(255), 0);
        due("row(255, 0)", x.row(255, 0), 0);
        due("row(255, 7)", x.row(255, 7), 7);
        due("where", x.where(0, 80000, 80000), -9);
        due("holds", x.holds(11, 80000, 80000, 0), -9);
        due("another object is free of this", new CabinetBooks().set(0, 5), 5);
    }

    private static void means() {
        promise = 2;
        CabinetBooks x = new CabinetBooks();
        due("means(19, 3)", x.means(19, 3), 19);
        due("means(19, 18)", x.means(19, 18), 3);
        due("means(19, 19)", x.means(19, 19), 18);
        due("means(19, 0)", x.means(19, 0), 19);
        due("means(0, 0)", x.means(0, 0), 0);
        due("greater", x.means(3, 4), -4);
        due("greater than 0", x.means(0, 19), -4);
        due("no such other", x.means(3, 20), -1);
        due("no such other below", x.means(3, -1), -1);
        due("no such word", x.means(20, 3), -1);
        due("no such word below", x.means(-1, -1), -1);
        due("far off", x.means(Integer.MIN_VALUE, Integer.MAX_VALUE), -1);
        due("refused means changes nothing", x.means(3, 3), 3);
    }

    private static void sense() {
        promise = 3;
        CabinetBooks x = new CabinetBooks();
        x.means(19, 7);
        x.means(7, 2);
        due("two steps", x.sense(19), 2);
        x.means(2, 1);
        due("told later, further down", x.sense(19), 1);
        due("the middle", x.sense(7), 1);
        x.means(7, 7);
        due("told back", x.sense(19), 7);
        due("lower part stays", x.sense(2), 1);
        for (int w = 1; w < 20; w++) {
            x.means(w, w - 1);
        }
        due("nineteen steps", x.sense(19), 0);
        due("no word 20", x.sense(20), -1);
        due("no word -1", x.sense(-1), -1);
    }

    private static void year() {
        promise = 4;
        CabinetBooks x = new CabinetBooks();
        due("1900", x.year(3, 1900), 1500);
        due("1500", x.year(3, 1500), 1900);
        due("1899", x.year(3, 1899), 1500);
        due("below", x.year(3, 1499), -4);
        due("above", x.year(3, 1901), -6);
        due("stays", x.year(3, 1700), 1899);
        due("others stay", x.year(2, 1700), 1500);
        due("no catalogue 4", x.year(4, 1499), -1);
        due("no catalogue -1", x.year(-1, 1901), -1);
    }

    private static void entry() {
        promise = 5;
        CabinetBooks x = new CabinetBooks();
        due("first", x.entry(3, 1 << 19, 200, 9, 99), 0);
        due("all words", x.entry(3, (1 << 20) - 1, 1, 0, 0), 1);
        due("of another catalogue", x.entry(0, 1, 1, 0, 0), 0);
        due("no catalogue", x.entry(4, 0, 0, -1, -1), -1);
        due("no catalogue below", x.entry(-1, 1, 1, 0, 0), -1);
        due("no such word", x.entry(0, 1 << 20, 0, 0, 0), -1);
        due("negative words", x.entry(0, -1, 1, 0, 0), -1);
        due("top bit of words", x.entry(0, Integer.MIN_VALUE, 1, 0, 0), -1);
        due("no words", x.entry(0, 0, 201, 0, 0), -4);
        due("size 0", x.entry(0, 1, 0, 10, 100), -4);
        due("room -1", x.entry(0, 1, 201, -1, 100), -4);
        due("colour -1", x.entry(0, 1, 201, 10, -1), -4);
        due("size 201", x.entry(0, 1, 201, 0, 0), -6);
        due("room 10", x.entry(0, 1, 1, 10, 0), -6);
        due("colour 100", x.entry(0, 1, 1, 0, 100), -6);
        due("count", x.count(0), 1);
        for (int n = 1; n < 10; n++) {
            due("entry " + n, x.entry(0, 1, 1, 0, 0), n);
        }
        due("the eleventh", x.entry(0, 1, 1, 0, 0), -6);
        due("the eleventh without words", x.entry(0, 0, 1, 0, 0), -4);
        due("ten", x.count(0), 10);
        due("another catalogue has room", x.entry(1, 1, 1, 0, 0), 0);
    }

    private static void set() {
        promise = 6;
        CabinetBooks x = new CabinetBooks();
        due("spare 50", x.set(0, 50), 5);
        due("spare 0", x.set(0, 0), 50);
        due("fade 9", x.set(1, 9), 1);
        due("fade 0", x.set(1, 0), 9);
        due("spare 51", x.set(0, 51), -6);
        due("fade 10", x.set(1, 10), -6);
        due("spare -1", x.set(0, -1), -4);
        due("fade -1", x.set(1, -1), -4);
        due("what 2", x.set(2, -1), -2);
        due("what -1", x.set(-1, 99), -2);
        due("spare stays", x.set(0, 7), 0);
        due("fade stays", x.set(1, 7), 0);
    }

    /** Ten entries of each catalogue told, all alike. */
    private static CabinetBooks alike(int... entries) {
        CabinetBooks x = new CabinetBooks();
        for (int c = 0; c < entries.length; c++) {
            for (int n = 0; n < entries[c]; n++) {
                x.entry(c, 1, 10, 0, 5);
            }
        }
        return x;
    }

    /** Catalogues 0 and 1 have an entry for each of ten words, the one upward, the other one downward. */
    private static CabinetBooks tenWords() {
        CabinetBooks x = new CabinetBooks();
        for (int n = 0; n < 10; n++) {
            x.entry(0, 1 << n, 10, 0, 5);
            x.entry(1, 1 << (9 - n), 10, 0, 5);
        }
        return x;
    }

    private static void bar() {
        promise = 7;
        CabinetBooks x = alike(10, 10, 1);
        due("new", x.bar(0, 3, 1, 4), 1);
        due("again", x.bar(0, 3, 1, 4), 0);
        due("from the other side", x.bar(1, 4, 0, 3), 0);
        due("numbers changed about", x.bar(0, 4, 1, 3), 1);
        due("barred", x.like(0, 3, 1, 4), 0);
        due("barred, other side", x.like(1, 4, 0, 3), 0);
        due("not barred", x.like(0, 3, 1, 3), 17);
        due("one catalogue", x.bar(0, 0, 0, 1), -1);
        due("no entry", x.bar(0, 10, 1, 0), -1);
        due("no entry on the other side", x.bar(0, 0, 2, 1), -1);
        due("entry -1", x.bar(0, -1, 1, 0), -1);
        due("no catalogue", x.bar(0, 0, 4, 0), -1);
        due("catalogue -1", x.bar(-1, 0, 1, 0), -1);
        due("two bars", x.count(7), 2);
        for (int n = 0; n < 28; n++) {
            due("bar", x.bar(0, 5 + n / 10, 1, n % 10), 1);
        }
        due("thirty", x.count(7), 30);
        due("the thirty-first", x.bar(0, 0, 2, 0), -6);
        due("the thirty-first, no entry", x.bar(0, 0, 2, 1), -1);
        due("one that is there needs no room", x.bar(0, 3, 1, 4), 0);
        due("still thirty", x.count(7), 30);
        due("the refused one is none", x.like(0, 0, 2, 0), 17);
    }

    private static void likeWordsSizesRooms() {
        promise = 8;
        CabinetBooks x = new CabinetBooks();
        x.entry(0, 0b0111, 50, 3, 20);
        x.entry(1, 0b0110, 50, 3, 20);
        x.entry(1, 0b1001, 55, 4, 20);
        x.entry(1, 0b1001, 56, 4, 20);
        x.entry(1, 0b1000, 50, 3, 20);
        x.entry(1, 0b11111111111111111001, 50, 4, 20);
        x.entry(1, 0b0111, 45, 4, 20);
        due("two in both, one in one", x.like(0, 0, 1, 0), 20 - 2 + 7);
        due("the other way", x.like(1, 0, 0, 0), 25);
        due("one at least", x.like(0, 0, 1, 1), 1);
        due("sizes too far", x.like(0, 0, 1, 2), 0);
        due("no sense in both", x.like(0, 0, 1, 3), 0);
        due("one at least, far below", x.like(0, 0, 1, 4), 1);
        due("size below by the spare", x.like(0, 0, 1, 5), 30 - 5);
        x.set(0, 4);
        due("spare 4", x.like(0, 0, 1, 5), 0);
        x.set(0, 50);
        x.means(3, 1);
        due("a word means another", x.like(0, 0, 1, 3), 10 - 4 + 7);
        x.means(1, 0);
        due("two words of one sense", x.like(0, 0, 1, 0), 20 + 7);
        due("one sense only", x.like(0, 0, 1, 3), 10 - 2 + 7);
        due("wide spare", x.like(0, 0, 1, 2), 10 - 2 - 6);
        due("one catalogue", x.like(1, 0, 1, 1), -1);
        due("no entry", x.like(0, 1, 1, 0), -1);
        due("no entry there", x.like(0, 0, 1, 6), -1);
        due("no catalogue", x.like(0, 0, 4, 0), -1);
        due("catalogue -1", x.like(-1, 0, 1, 0), -1);
        due("empty catalogue", x.like(0, 0, 2, 0), -1);
    }

    private static void likeColours() {
        promise = 8;
        CabinetBooks x = new CabinetBooks();
        x.entry(0, 1, 10, 0, 50);
        x.entry(1, 1, 10, 0, 50);
        x.entry(1, 1, 10, 0, 51);
        x.entry(1, 1, 10, 0, 45);
        x.entry(1, 1, 10, 0, 44);
        x.entry(1, 1, 10, 0, 30);
        due("same colour", x.like(0, 0, 1, 0), 17);
        due("one year: the greater number is later, and above", x.like(0, 0, 1, 1), 0);
        due("one year: 5 below", x.like(0, 0, 1, 2), 17);
        due("one year: 6 below", x.like(0, 0, 1, 3), 0);
        x.year(1, 1501);
        due("a year: 6 below", x.like(0, 0, 1, 3), 17);
        due("a year, told from the later", x.like(1, 3, 0, 0), 17);
        x.year(1, 1505);
        x.set(1, 3);
        due("five years of three and 5", x.like(0, 0, 1, 4), 17);
        x.set(1, 2);
        due("five years of two and 5", x.like(0, 0, 1, 4), 0);
        x.set(1, 9);
        x.year(0, 1506);
        due("now the lesser number is later, and above", x.like(0, 0, 1, 2), 0);
        due("and one below", x.like(0, 0, 1, 1), 17);
        x.set(1, 0);
        x.year(0, 1900);
        due("no fading: same colour", x.like(0, 0, 1, 0), 17);
    }

    private static void join() {
        promise = 9;
        CabinetBooks x = new CabinetBooks();
        // The nearest for the first one would leave the second one out.
        x.entry(0, 0b011, 50, 0, 0);
        x.entry(0, 0b001, 50, 0, 0);
        x.entry(1, 0b001, 50, 1, 0);
        x.entry(1, 0b010, 50, 1, 0);
        due("two of two", x.join(0, 1), 8 + 10);
        due("the other way", x.join(1, 0), 18);
        x.bar(0, 0, 1, 1);
        due("with a bar", x.join(0, 1), 10);
        x.means(1, 0);
        due("with a meaning", x.join(0, 1), 20);
        x.set(0, 0);
        due("still of one size", x.join(0, 1), 20);
        x.year(0, 1501);
        due("years of one colour", x.join(0, 1), 20);
        x.entry(1, 0b001, 50, 0, 0);
        due("with one more", x.join(0, 1), 10 + 17);
        due("empty", x.join(0, 2), 0);
        due("both empty", x.join(2, 3), 0);
        due("one", x.join(0, 0), -1);
        due("none", x.join(0, 4), -1);
        due("none", x.join(-1, 0), -1);
        due("ten of ten", alike(10, 10).join(0, 1), 170);
        due("ten of three", alike(10, 3).join(0, 1), 51);
    }

    private static void joined() {
        promise = 10;
        CabinetBooks x = alike(3, 2);
        due("first", x.joined(0, 0, 1), 0);
        due("second", x.joined(0, 1, 1), 1);
        due("third", x.joined(0, 2, 1), -9);
        due("back", x.joined(1, 1, 0), 1);
        x.bar(0, 0, 1, 0);
        due("first, barred", x.joined(0, 0, 1), 1);
        due("second then", x.joined(0, 1, 1), 0);
        x.bar(0, 0, 1, 1);
        due("none left", x.joined(0, 0, 1), -9);
        due("second then", x.joined(0, 1, 1), 0);
        due("third then", x.joined(0, 2, 1), 1);
        due("no entry", x.joined(0, 3, 1), -1);
        due("entry -1", x.joined(0, -1, 1), -1);
        due("one catalogue", x.joined(0, 0, 0), -1);
        due("no catalogue", x.joined(0, 0, 4), -1);
        due("no catalogue", x.joined(4, 0, 0), -1);
        due("to an empty one", x.joined(0, 0, 3), -9);
        // Told from each side the best may be another one: the first entry of the first catalogue goes first.
        CabinetBooks y = alike(3, 3);
        y.bar(0, 0, 1, 0);
        due("0 to 1", y.joined(0, 0, 1), 1);
        due("1 to 0", y.joined(0, 1, 1), 0);
        due("2 to 2", y.joined(0, 2, 1), 2);
        CabinetBooks z = alike(2, 3);
        z.bar(0, 0, 1, 0);
        z.bar(0, 0, 1, 1);
        due("from a", z.joined(0, 1, 1), 0);
        due("from b", z.joined(1, 0, 0), 1);
        due("from b, the middle", z.joined(1, 1, 0), -9);
    }

    private static void bests() {
        promise = 11;
        due("3 and 2", alike(3, 2).bests(0, 1), 6);
        due("5 and 5", alike(5, 5).bests(0, 1), 120);
        due("9 and 9", alike(9, 9).bests(0, 1), 362880);
        due("10 and 9: too many", alike(10, 9).bests(0, 1), 1000000);
        due("10 and 10: too many", alike(10, 10).bests(0, 1), 1000000);
        due("10 and 7", alike(10, 7).bests(0, 1), 604800);
        due("7 and 10", alike(7, 10).bests(0, 1), 604800);
        due("8 and 10: too many", alike(8, 10).bests(0, 1), 1000000);
        CabinetBooks x = alike(2, 2);
        x.bar(0, 0, 1, 0);
        due("barred", x.bests(0, 1), 1);
        due("empty", x.bests(2, 3), 1);
        due("one empty", x.bests(0, 3), 1);
        due("one", x.bests(1, 1), -1);
        due("none", x.bests(4, 1), -1);
        due("none", x.bests(1, -1), -1);
    }

    private static void sure() {
        promise = 12;
        CabinetBooks x = alike(2, 2);
        due("not sure", x.sure(0, 0, 1), 0);
        x.bar(0, 0, 1, 0);
        due("sure", x.sure(0, 0, 1), 1);
        due("sure", x.sure(0, 1, 1), 1);
        due("sure from the other side", x.sure(1, 1, 0), 1);
        x.bar(0, 1, 1, 0);
        due("either may be joined", x.sure(0, 0, 1), 0);
        due("none in all is not sure", x.sure(1, 0, 0), 0);
        due("two ways", x.bests(0, 1), 2);
        due("no entry", x.sure(0, 2, 1), -1);
        due("one catalogue", x.sure(0, 0, 0), -1);
        due("no catalogue", x.sure(0, 0, 4), -1);
        due("no catalogue", x.sure(-1, 0, 1), -1);
        due("to an empty one", x.sure(0, 0, 2), 0);
        due("more ways than are counted", alike(10, 10).sure(0, 9, 1), 0);
        CabinetBooks full = tenWords();
        for (int i = 0; i < 10; i++) {
            due("each to its own", full.joined(0, i, 1), 9 - i);
            due("each is sure", full.sure(0, i, 1), 1);
        }
    }

    private static void chain() {
        promise = 13;
        CabinetBooks x = new CabinetBooks();
        int wide = (1 << 12) - 1;
        x.entry(0, wide, 50, 0, 9);
        x.entry(1, 1 << 19, 50, 0, 9);
        x.entry(1, wide, 50, 0, 9);
        x.entry(2, 1, 50, 1, 9);
        x.entry(2, wide, 52, 1, 9);
        x.entry(2, wide, 52, 1, 9);
        x.entry(3, 1, 53, 1, 9);
        due("one step", x.chain(0, 0, 2, 0), 1);
        due("one step", x.chain(0, 0, 2, 1), 1);
        due("likeness above 100 is no less doubt than none", x.chain(0, 0, 2, 2), 0);
        due("two steps", x.chain(0, 0, 23, 0), 1);
        due("the second one is not sure", x.chain(0, 0, 23, 2), 50);
        due("by a short way", x.chain(0, 0, 4, 0), 0);
        due("one sense, eleven others: one at least", x.chain(0, 0, 4, 2), 99);
        due("it ends at 3: 2's first is joined there", x.chain(0, 0, 234, 0), -9);
        due("steps that it makes", x.chain(0, 0, 234, 1), 2);
        due("doubt of these", x.chain(0, 0, 234, 2), 50);
        due("of another order", x.chain(0, 0, 432, 0), -9);
        due("of another order", x.chain(0, 0, 432, 1), 2);
        due("of another order", x.chain(0, 0, 432, 2), 99 + 100 - 14);
        due("no step", x.chain(1, 0, 1, 0), -9);
        due("no step", x.chain(1, 0, 143, 1), 0);
        due("no step", x.chain(1, 0, 143, 2), 0);
        due("back to its own", x.chain(0, 0, 21, 0), -1);
        due("its own first", x.chain(0, 0, 1, 0), -1);
        due("twice", x.chain(0, 0, 232, 0), -1);
        due("no way", x.chain(0, 0, 0, 0), -1);
        due("digit 5", x.chain(0, 0, 5, 0), -1);
        due("digit 0 in it", x.chain(0, 0, 203, 0), -1);
        due("digit 0 last", x.chain(0, 0, 20, 0), -1);
        due("four digits", x.chain(0, 0, 2341, 0), -1);
        due("negative", x.chain(0, 0, -2, 0), -1);
        due("no entry", x.chain(0, 1, 2, 0), -1);
        due("no catalogue", x.chain(4, 0, 2, 3), -1);
        due("what 3", x.chain(0, 0, 2, 3), -2);
        due("what -1", x.chain(0, 0, 2, -1), -2);
        due("way before what", x.chain(0, 0, 1, 3), -1);
    }

    private static void copied() {
        promise = 14;
        CabinetBooks x = new CabinetBooks();
        x.entry(0, 3, 50, 0, 50);
        x.entry(0, 3, 50, 1, 50);
        x.entry(1, 3, 50, 0, 40);
        x.entry(1, 3, 51, 1, 50);
        x.entry(1, 4, 50, 1, 99);
        due("of one year", x.copied(0, 1, 0), -3);
        due("of one year", x.copied(1, 0, 0), -3);
        due("of one catalogue", x.copied(1, 1, 0), -3);
        x.year(1, 1510);
        due("joined to the first one, told by the second one", x.joined(0, 0, 1), 0);
        due("the second one", x.copied(0, 1, 0), 1);
        due("another size", x.copied(0, 1, 1), -9);
        due("other words", x.copied(0, 1, 2), -9);
        x.bar(0, 0, 1, 0);
        due("now the first one", x.copied(0, 1, 0), 0);
        due("the later first", x.copied(1, 0, 0), -3);
        x.entry(0, 8, 50, 0, 50);
        x.means(3, 2);
        due("of one sense, of other words", x.copied(0, 1, 2), -9);
        due("no entry", x.copied(0, 1, 3), -1);
        due("entry -1", x.copied(0, 1, -1), -1);
        due("no entry, nor later", x.copied(1, 0, 3), -1);
        due("no catalogue", x.copied(4, 1, 0), -1);
        due("no catalogue", x.copied(0, -1, 0), -1);
        due("an empty earlier one", x.copied(2, 1, 0), -9);
        CabinetBooks full = tenWords();
        full.year(1, 1501);
        for (int k = 0; k < 10; k++) {
            due("each is joined to its own", full.copied(0, 1, k), -9);
        }
        full.bar(0, 9, 1, 0);
        due("the last one of ten", full.copied(0, 1, 0), 9);
    }

    private static void sight() {
        promise = 15;
        CabinetBooks x = new CabinetBooks();
        due("first", x.sight(11, 7, 80000, 80000), 0);
        due("known ahead of its day", x.sight(0, 0, 80000, 0), 1);
        due("no thing", x.sight(12, 0, -1, 0), -1);
        due("thing -1", x.sight(-1, 0, 0, 0), -1);
        due("no place", x.sight(0, 8, 80001, 0), -1);
        due("place -1", x.sight(0, -1, 0, 0), -1);
        due("day -1", x.sight(0, 0, -1, 80001), -4);
        due("known -1", x.sight(0, 0, 80001, -1), -4);
        due("day above", x.sight(0, 0, 80001, 0), -6);
        due("known above", x.sight(0, 0, 0, 80001), -6);
        for (int n = 2; n < 60; n++) {
            due("sight", x.sight(0, n % 8, n, 100 - n), n);
        }
        due("the sixty-first", x.sight(0, 0, 0, 0), -6);
        due("the sixty-first, below", x.sight(0, 0, 0, -1), -4);
        due("sixty", x.count(4), 60);
        due("moves have room of their own", x.move(0, 0, 0, 0, 0), 0);
    }

    private static void move() {
        promise = 16;
        CabinetBooks x = new CabinetBooks();
        due("first", x.move(11, 7, 80000, 4, 80000), 0);
        due("second", x.move(0, 0, 0, 0, 0), 1);
        due("no thing", x.move(12, 0, 0, 5, -1), -1);
        due("thing -1", x.move(-1, 0, 0, 0, 0), -1);
        due("no person", x.move(0, 8, 0, 9, 0), -1);
        due("person -1", x.move(0, -1, 0, 4, 0), -1);
        due("sort 5", x.move(0, 0, -1, 5, 0), -2);
        due("sort -1", x.move(0, 0, 80001, -1, 0), -2);
        due("day -1", x.move(0, 0, -1, 0, 80001), -4);
        due("known -1", x.move(0, 0, 80001, 0, -1), -4);
        due("day above", x.move(0, 0, 80001, 0, 0), -6);
        due("known above", x.move(0, 0, 0, 0, 80001), -6);
        for (int n = 2; n < 60; n++) {
            due("move", x.move(0, n % 8, n, n % 5, 100 - n), n);
        }
        due("the sixty-first", x.move(0, 0, 0, 0, 0), -6);
        due("the sixty-first, sort", x.move(0, 0, 0, 5, 0), -2);
        due("sixty", x.count(5), 60);
        due("no sights by this", x.count(4), 0);
    }

    private static void withdraw() {
        promise = 17;
        CabinetBooks x = new CabinetBooks();
        x.sight(0, 3, 5, 10);
        x.sight(0, 4, 5, 10);
        x.move(0, 1, 5, 0, 20);
        due("no sight", x.withdraw(true, 2, 10), -1);
        due("sight -1", x.withdraw(true, -1, -1), -1);
        due("no move", x.withdraw(false, 1, 20), -1);
        due("ahead of its own", x.withdraw(true, 0, 9), -4);
        due("below 0", x.withdraw(true, 0, -1), -4);
        due("above", x.withdraw(true, 0, 80001), -6);
        due("none yet", x.count(9), 0);
        due("on its own day", x.withdraw(true, 1, 10), 1);
        due("never counts", x.where(0, 5, 10), 3);
        due("on the last day", x.withdraw(true, 0, 80000), 1);
        due("counts till then", x.where(0, 5, 79999), 3);
        due("and then no more", x.where(0, 5, 80000), -9);
        due("it was, ahead of its own", x.withdraw(true, 0, 9), -3);
        due("it was, above", x.withdraw(true, 0, 80001), -3);
        due("a move", x.withdraw(false, 0, 25), 1);
        due("ahead of being known", x.holds(0, 5, 19, 0), -9);
        due("known", x.holds(0, 5, 20, 0), 1);
        due("till ahead of that", x.holds(0, 5, 24, 0), 1);
        due("withdrawn", x.holds(0, 5, 25, 0), -9);
        due("three", x.count(9), 3);
        due("records stay", x.count(4), 2);
    }

    private static void where() {
        promise = 18;
        CabinetBooks x = new CabinetBooks();
        x.sight(0, 5, 30, 0);
        x.sight(0, 2, 10, 0);
        x.sight(1, 7, 20, 0);
        x.sight(0, 6, 30, 3);
        x.sight(0, 1, 30, 8);
        x.withdraw(true, 4, 9);
        due("ahead of all", x.where(0, 9, 9), -9);
        due("on the day", x.where(0, 10, 9), 2);
        due("between", x.where(0, 29, 9), 2);
        due("one of the day is known", x.where(0, 30, 2), 5);
        due("two of the day: the greater number", x.where(0, 30, 3), 6);
        due("three of the day", x.where(0, 80000, 8), 1);
        due("one is withdrawn", x.where(0, 31, 9), 6);
        due("another thing", x.where(1, 80000, 80000), 7);
        due("never seen", x.where(2, 80000, 80000), -9);
        due("no thing", x.where(12, -1, 0), -1);
        due("thing -1", x.where(-1, 0, 0), -1);
        due("day -1", x.where(0, -1, 80001), -4);
        due("known -1", x.where(0, 80001, -1), -4);
        due("day above", x.where(0, 80001, 0), -6);
        due("known above", x.where(0, 0, 80001), -6);
    }

    private static void quarrels() {
        promise = 19;
        CabinetBooks x = new CabinetBooks();
        x.sight(0, 1, 10, 0);
        x.sight(0, 1, 10, 1);
        due("one place", x.quarrels(0, 1), 0);
        x.sight(0, 2, 10, 2);
        x.sight(0, 3, 10, 3);
        x.sight(0, 1, 10, 3);
        x.sight(1, 4, 20, 4);
        x.sight(0, 5, 20, 4);
        x.sight(0, 6, 0, 5);
        x.sight(0, 7, 0, 5);
        due("as of 1", x.quarrels(0, 1), 0);
        due("as of 2", x.quarrels(0, 2), 1);
        due("three places of a day are one day", x.quarrels(0, 3), 1);
        due("another thing's sight is no quarrel", x.quarrels(0, 4), 1);
        due("and day 0", x.quarrels(0, 5), 2);
        x.withdraw(true, 2, 6);
        due("two places are left", x.quarrels(0, 6), 2);
        x.withdraw(true, 3, 7);
        due("one place is left", x.quarrels(0, 7), 1);
        due("as it was", x.quarrels(0, 6), 2);
        due("another thing", x.quarrels(1, 80000), 0);
        due("no thing", x.quarrels(12, -1), -1);
        due("known -1", x.quarrels(0, -1), -4);
        due("known above", x.quarrels(0, 80001), -6);
    }

    private static void holder() {
        promise = 20;
        CabinetBooks x = new CabinetBooks();
        x.move(0, 5, 10, 3, 0);
        due("lent by nobody", x.holds(0, 10, 0, 0), 5);
        x.move(0, 6, 12, 4, 0);
        due("back to nobody", x.holds(0, 12, 0, 0), -9);
        x.move(0, 6, 13, 4, 0);
        due("nothing is lent", x.holds(0, 13, 0, 0), -9);
        x.move(0, 1, 20, 0, 0);
        x.move(0, 2, 21, 3, 0);
        x.move(0, 3, 22, 3, 0);
        due("lent twice", x.holds(0, 22, 0, 0), 3);
        x.move(0, 7, 23, 4, 0);
        due("back once", x.holds(0, 23, 0, 0), 2);
        x.move(0, 7, 24, 4, 0);
        due("back twice", x.holds(0, 24, 0, 0), 1);
        x.move(0, 7, 25, 4, 0);
        due("no more is lent", x.holds(0, 25, 0, 0), 1);
        x.move(0, 2, 30, 3, 0);
        x.move(0, 4, 31, 1, 0);
        x.move(0, 7, 32, 4, 0);
        due("given: nothing is lent any more", x.holds(0, 32, 0, 0), 4);
        x.move(0, 3, 33, 3, 0);
        x.move(0, 6, 34, 2, 0);
        x.move(0, 7, 35, 4, 0);
        due("taken: nothing is lent any more", x.holds(0, 35, 0, 0), 6);
        // By days, then by numbers, whatever the order of telling.
        x.move(1, 1, 50, 0, 0);
        x.move(1, 2, 40, 0, 0);
        x.move(1, 3, 50, 0, 0);
        due("the earlier day", x.holds(1, 49, 0, 0), 2);
        due("of one day the greater number", x.holds(1, 50, 0, 0), 3);
        due("ahead of all", x.holds(1, 39, 0, 0), -9);
        due("another thing", x.holds(2, 80000, 80000, 0), -9);
        due("no thing", x.holds(12, 0, 0, 3), -1);
        due("what 3", x.holds(0, -1, 0, 3), -2);
        due("what -1", x.holds(0, 80001, 0, -1), -2);
        due("day -1", x.holds(0, -1, 80001, 0), -4);
        due("known -1", x.holds(0, 80001, -1, 0), -4);
        due("day above", x.holds(0, 80001, 0, 0), -6);
        due("known above", x.holds(0, 0, 80001, 0), -6);
    }

    private static void ownerAndStolen() {
        promise = 20;
        CabinetBooks x = new CabinetBooks();
        due("no owner at first", x.holds(0, 0, 0, 1), -9);
        due("not stolen at first", x.holds(0, 0, 0, 2), 0);
        x.move(0, 1, 10, 0, 0);
        x.move(0, 2, 11, 3, 0);
        due("lent: the owner stays", x.holds(0, 11, 0, 1), 1);
        x.move(0, 3, 12, 4, 0);
        due("back: the owner stays", x.holds(0, 12, 0, 1), 1);
        x.move(0, 4, 13, 2, 0);
        due("taken: no owner", x.holds(0, 13, 0, 1), -9);
        due("taken: stolen", x.holds(0, 13, 0, 2), 1);
        x.move(0, 5, 14, 3, 0);
        x.move(0, 5, 15, 4, 0);
        due("lent on, and back: still stolen", x.holds(0, 15, 0, 2), 1);
        due("still no owner", x.holds(0, 15, 0, 1), -9);
        due("held by who took it", x.holds(0, 15, 0, 0), 4);
        x.move(0, 6, 16, 1, 7);
        due("given, not known yet", x.holds(0, 16, 6, 1), -9);
        due("given", x.holds(0, 16, 7, 1), 6);
        due("given: not stolen", x.holds(0, 16, 7, 2), 0);
        x.withdraw(false, 4, 8);
        due("as if not taken", x.holds(0, 15, 8, 1), -9);
        x.withdraw(false, 3, 9);
        due("taking withdrawn", x.holds(0, 15, 9, 1), 1);
        due("taking withdrawn", x.holds(0, 15, 9, 2), 0);
    }

    private static void since() {
        promise = 21;
        CabinetBooks x = new CabinetBooks();
        due("nobody from the first", x.since(0, 5, 80000), 0);
        x.move(0, 1, 10, 0, 20);
        due("ahead of it", x.since(0, 10, 19), 0);
        due("on the day", x.since(0, 10, 20), 20);
        due("later", x.since(0, 10, 80000), 20);
        due("on a day ahead of the move", x.since(0, 9, 80000), 0);
        x.move(0, 1, 11, 1, 30);
        due("another move to the same one", x.since(0, 11, 40), 20);
        x.withdraw(false, 0, 50);
        due("still the same", x.since(0, 11, 60), 20);
        x.move(0, 2, 12, 0, 70);
        x.withdraw(false, 2, 75);
        due("between", x.since(0, 12, 74), 70);
        due("the same again, but not between", x.since(0, 12, 80), 75);
        x.move(1, 3, 0, 0, 0);
        due("known on day 0", x.since(1, 0, 9), 0);
        x.move(1, 4, 0, 0, 1);
        due("known on day 1", x.since(1, 0, 9), 1);
        x.move(2, 4, 0, 0, 5);
        x.withdraw(false, 5, 5);
        due("never counted", x.since(2, 0, 9), 0);
        due("no thing", x.since(12, -1, 0), -1);
        due("day -1", x.since(0, -1, 80001), -4);
        due("known -1", x.since(0, 80001, -1), -4);
        due("day above", x.since(0, 80001, 0), -6);
        due("known above", x.since(0, 0, 80001), -6);
    }

    private static void visitor() {
        promise = 22;
        CabinetBooks x = new CabinetBooks();
        due("left of", x.visitor(0, 0, 11, 1), 0);
        due("beside", x.visitor(1, 11, 0, 9), 1);
        due("left end, y as x", x.visitor(2, 3, 3, 9), 2);
        due("right end, y counts nothing", x.visitor(3, 3, 12, 9), 3);
        due("left end, y counts nothing", x.visitor(2, 3, -1, 9), 4);
        due("sort 4", x.visitor(4, 12, 12, 0), -2);
        due("sort -1", x.visitor(-1, 0, 1, 1), -2);
        due("one, left of", x.visitor(0, 1, 1, 0), -1);
        due("one, beside", x.visitor(1, 1, 1, 10), -1);
        due("no x", x.visitor(2, 12, 0, 0), -1);
        due("x -1", x.visitor(3, -1, 0, 1), -1);
        due("no y", x.visitor(0, 0, 12, 0), -1);
        due("y -1", x.visitor(1, 0, -1, 0), -1);
        due("trust 0", x.visitor(0, 0, 1, 0), -4);
        due("trust 10", x.visitor(0, 0, 1, 10), -6);
        due("five", x.count(6), 5);
        for (int n = 5; n < 40; n++) {
            due("visitor", x.visitor(n % 4, 0, 1, 1), n);
        }
        due("the forty-first", x.visitor(0, 0, 1, 1), -6);
        due("the forty-first, trust 0", x.visitor(0, 0, 1, 0), -4);
        due("forty", x.count(6), 40);
    }

    private static void shelf() {
        promise = 23;
        CabinetBooks x = new CabinetBooks();
        x.visitor(0, 0, 1, 9);
        x.visitor(0, 1, 0, 4);
        due("the greater trust", x.shelf(3), 9);
        x.visitor(0, 1, 0, 6);
        due("and then the other", x.shelf(3), 10);
        x.visitor(1, 0, 2, 5);
        x.visitor(1, 1, 2, 5);
        due("2 between", x.shelf(7), 20);
        x.visitor(2, 2, 9, 7);
        x.visitor(3, 2, 9, 8);
        due("both ends of one alone", x.shelf(4), 15);
        due("at an end", x.shelf(7), 10 + 5 + 8);
        due("words of things that are not there", x.shelf(1 << 11), 0);
        due("eight", x.shelf(0b111111110000), 0);
        due("nine", x.shelf(0b111111111000), -6);
        due("all", x.shelf(4095), -6);
        due("none", x.shelf(0), -1);
        due("others", x.shelf(4096), -1);
        due("others, and many", x.shelf(8191), -1);
        due("negative", x.shelf(-1), -1);
    }

    private static void rowAndQuarrel() {
        promise = 24;
        CabinetBooks x = new CabinetBooks();
        x.visitor(0, 8, 2, 3);
        x.visitor(1, 5, 8, 2);
        x.visitor(3, 8, 0, 1);
        int set = 1 << 2 | 1 << 5 | 1 << 8 | 1 << 11;
        // 8 left of 2, 5 beside 8: 5 8 2 11 is the first of these by things from the left.
        due("first", x.row(set, 0), 5);
        due("second", x.row(set, 1), 8);
        due("third", x.row(set, 2), 2);
        due("fourth", x.row(set, 3), 11);
        due("fifth", x.row(set, 4), -9);
        due("place -1", x.row(set, -1), -9);
        due("far place", x.row(set, Integer.MAX_VALUE), -9);
        due("none", x.row(0, 0), -1);
        due("others", x.row(1 << 12, 0), -1);
        due("nine", x.row(511, 0), -6);
        due("nine, no place", x.row(511, 99), -6);
        promise = 25;
        due("what doesn't hold", x.quarrel(set), 1);
        due("all of another shelf hold", x.quarrel(1 << 5 | 1 << 8), 0);
        x.visitor(2, 11, 0, 9);
        due("with a new word", x.row(set, 0), 11);
        due("and the rest", x.row(set, 1), 5);
        due("still", x.quarrel(set), 1);
        x.visitor(2, 5, 0, 9);
        due("of several the first by things", x.row(set, 0), 5);
        due("two at one end", x.quarrel(set), 1 + 9);
        due("none", x.quarrel(0), -1);
        due("others", x.quarrel(Integer.MIN_VALUE), -1);
        due("nine", x.quarrel(511), -6);
    }

    private static void part() {
        promise = 26;
        CabinetBooks x = new CabinetBooks();
        due("kind 5", x.part(9, 5), 0);
        due("kind 0", x.part(9, 0), 5);
        due("kind -1", x.part(9, -1), -4);
        due("kind 6", x.part(9, 6), -6);
        due("stays", x.part(9, 1), 0);
        due("no part", x.part(10, -1), -1);
        due("part -1", x.part(-1, 6), -1);
    }

    private static void clash() {
        promise = 27;
        CabinetBooks x = new CabinetBooks();
        due("not so already", x.clash(0, 5, false), 0);
        due("clash", x.clash(0, 5, true), 1);
        due("again", x.clash(5, 0, true), 0);
        due("another", x.clash(0, 1, true), 1);
        due("two", x.count(8), 2);
        due("off", x.clash(5, 0, false), 1);
        due("off again", x.clash(0, 5, false), 0);
        due("one", x.count(8), 1);
        due("below", x.clash(-1, 6, true), -4);
        due("below on the other side", x.clash(6, -1, true), -4);
        due("below, one", x.clash(-1, -1, true), -4);
        due("above", x.clash(0, 6, true), -6);
        due("above, one", x.clash(6, 6, false), -6);
        due("one", x.clash(5, 5, false), -3);
        due("one", x.clash(0, 0, true), -3);
        due("still one", x.count(8), 1);
    }

    private static void fake() {
        promise = 28;
        CabinetBooks x = new CabinetBooks();
        x.part(9, 1);
        x.part(8, 2);
        due("nothing clashes", x.fake(1023), 0);
        x.clash(1, 0, true);
        due("0 and 1", x.fake(1 | 1 << 9), 1);
        due("0 and 2", x.fake(1 | 1 << 8), 0);
        due("1 and 2", x.fake(3 << 8), 0);
        due("one part", x.fake(1 << 9), 0);
        due("no part", x.fake(0), 0);
        due("all", x.fake(1023), 1);
        x.clash(0, 1, false);
        due("no more", x.fake(1023), 0);
        x.clash(2, 1, true);
        due("1 and 2", x.fake(3 << 8), 1);
        x.part(8, 1);
        due("of one kind", x.fake(3 << 8), 0);
        due("other bits", x.fake(1024), -1);
        due("negative", x.fake(-1), -1);
    }

    private static void least() {
        promise = 29;
        CabinetBooks x = new CabinetBooks();
        x.part(1, 1);
        x.part(2, 2);
        x.part(3, 3);
        x.part(4, 1);
        due("none is fake", x.least(0b11111), 0);
        x.clash(1, 2, true);
        x.clash(1, 3, true);
        due("least bits of two of two", x.least(0b11110), 0b01100);
        due("one of three", x.least(0b01110), 0b00010);
        due("of two the lesser", x.least(0b10100), 0b00100);
        due("without what clashes", x.least(0b01100), 0);
        due("fewest ahead of least bits", x.least(0b11100), 0b10000);
        due("empty", x.least(0), 0);
        for (int a = 0; a < 6; a++) {
            for (int b = a + 1; b < 6; b++) {
                x.clash(a, b, true);
            }
        }
        x.part(0, 5);
        for (int p = 5; p < 10; p++) {
            x.part(p, 0);
        }
        due("all but those of one kind", x.least(1023), 0b11111);
        due("other bits", x.least(1 << 10), -1);
        due("negative", x.least(-1024), -1);
    }

    private static void count() {
        promise = 30;
        CabinetBooks x = new CabinetBooks();
        x.entry(0, 1, 1, 0, 0);
        for (int c = 0; c < 4; c++) {
            for (int n = 0; n <= c; n++) {
                x.entry(c, 1, 1, 0, 0);
            }
        }
        for (int n = 0; n < 5; n++) {
            x.sight(0, 0, 0, 0);
            x.move(0, 0, 0, 0, 0);
            x.visitor(0, 0, 1, 1);
        }
        x.move(0, 0, 0, 0, 0);
        x.visitor(0, 0, 1, 1);
        x.visitor(0, 0, 1, 1);
        x.bar(0, 0, 1, 0);
        x.bar(1, 0, 0, 0);
        x.clash(1, 2, true);
        x.clash(1, 3, true);
        x.clash(1, 4, true);
        x.clash(1, 4, false);
        x.withdraw(true, 0, 0);
        x.withdraw(true, 4, 0);
        x.withdraw(false, 5, 0);
        int[] want = {2, 2, 3, 4, 5, 6, 7, 1, 2, 3, -9, 0, 0, 0, 0, 0, 0, -9};
        for (int what = 0; what < want.length; what++) {
            due("count(" + what + ")", x.count(what), want[what]);
        }
        for (int n = 0; n < 6; n++) {
            x.sense(20);
            if (n > 0) {
                x.set(2, 0);
            }
            if (n > 1) {
                x.clash(0, 0, true);
            }
            if (n > 2) {
                x.set(0, -1);
            }
            if (n > 3) {
                x.set(0, 51);
            }
        }
        int[] refused = {6, 5, 4, 3, 0, 2};
        for (int number = 1; number <= 6; number++) {
            due("count(" + (10 + number) + ")", x.count(10 + number), refused[number - 1]);
        }
        due("count(-1)", x.count(-1), -9);
        due("count(far)", x.count(Integer.MIN_VALUE), -9);
        due("count(far)", x.count(Integer.MAX_VALUE), -9);
        due("another what is no refusal", x.count(11), 6);
        x.joined(0, 0, 1);
        x.where(5, 0, 0);
        x.row(1, 1);
        due("-9 is no refusal", x.count(11), 6);
    }

    private static void refusalsChangeNothing() {
        promise = 30;
        CabinetBooks x = alike(2, 2);
        x.visitor(0, 0, 1, 5);
        x.move(0, 1, 0, 0, 0);
        due("join", x.join(0, 1), 34);
        x.means(0, 1);
        x.year(0, 1901);
        x.entry(0, 1, 201, 0, 0);
        x.set(0, -1);
        x.bar(0, 0, 1, 2);
        x.move(0, 2, 0, 0, 80001);
        x.withdraw(false, 0, -1);
        x.visitor(0, 1, 0, 10);
        x.part(0, 6);
        x.clash(0, 6, true);
        due("join", x.join(0, 1), 34);
        due("bests", x.bests(0, 1), 2);
        due("shelf", x.shelf(3), 5);
        due("quarrel", x.quarrel(3), 0);
        due("holder", x.holds(0, 0, 80000, 0), 1);
        due("-1", x.count(11), 1);
        due("-4", x.count(14), 3);
        due("-6", x.count(16), 6);
        due("entries", x.count(0), 2);
        due("moves", x.count(5), 1);
        due("words", x.count(6), 1);
        due("withdrawn", x.count(9), 0);
    }
}
