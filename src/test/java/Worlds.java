import java.util.ArrayList;
import java.util.List;

/** Towns to be asked, and all that one can be asked about. */
final class Worlds {
    private Worlds() {
    }

    /** Whatever can be kept is kept and unlike what it is at first; clerks 0 to 3, texts 0 to 2, sheet 3 is missing. */
    static NoZeroWithin rich() {
        NoZeroWithin x = new NoZeroWithin();
        x.clerk(0, 3);
        x.clerk(3, 7);
        Due.say(x, "nought clerk+2;slips 7;costs off+1;");
        Due.say(x, "nought more;slips 20+v;costs off*2;");
        x.set(0, 6);
        x.set(1, -4);
        x.force(2);
        x.lend(0, 1, 11);
        x.lend(4, 5, 12);
        x.image();
        x.set(0, 9);
        x.set(1, 44);
        x.force(1);
        x.clerk(4, 2);
        x.clerk(5, 1);
        x.lend(0, 1, 5);
        x.lend(1, 0, 7);
        x.lend(1, 2, 8);
        x.lend(2, 0, 9);
        Due.fill(x, 0, 2, 0, 10, 345, 99999);
        Due.fill(x, 1, 2, 12, 5, 100000);
        Due.fill(x, 2, 0, -1, 4);
        feed(x, "nought 8;slips 9;costs");
        return x;
    }

    /** As full as can be: 5 clerks, 6 texts, 160 bytes, 4 sheets of 40, debts of 9999. */
    static NoZeroWithin full() {
        NoZeroWithin x = new NoZeroWithin();
        for (int c = 0; c < 5; c++) {
            x.clerk(c + 1, 9 - c);
        }
        for (int t = 1; t < 6; t++) {
            feed(x, "nought " + t + ";slips 1;costs 1;");
            x.text();
        }
        x.set(0, 12);
        x.set(1, -999);
        x.force(5);
        for (int f = 0; f < 6; f++) {
            for (int g = 0; g < 6; g++) {
                x.lend(f, g, 9999);
            }
        }
        for (int s = 0; s < 4; s++) {
            x.sheet(s, s == 0 ? 0 : s == 1 ? 1 : 2, 40);
            for (int i = 0; i < 40; i += 13) {
                x.cell(s, i, 1 + i);
            }
        }
        for (int i = 0; i < 32; i++) {
            x.feed(5, 'v', 'v', 'v', 'v', 'v');
        }
        x.image();
        return x;
    }

    private static void feed(NoZeroWithin x, String text) {
        for (int i = 0; i < text.length(); i += 5) {
            int[] b = new int[5];
            int n = Math.min(5, text.length() - i);
            for (int k = 0; k < n; k++) {
                b[k] = text.charAt(i + k);
            }
            x.feed(n, b[0], b[1], b[2], b[3], b[4]);
        }
    }

    /** All that is kept, found by asking and by changing: the town can't be used behind it. */
    static List<Long> allOf(NoZeroWithin x) {
        List<Long> all = new ArrayList<>();
        town(x, all);
        if (x.count(0) == 0) {
            x.clerk(0, 0);
        }
        for (int s = 0; s < 4; s++) {
            sheet(x, s, all);
        }
        // What stands on the tape is seen by what becomes of it.
        feed(x, " 3;");
        all.add((long) x.text());
        all.add((long) x.force(x.count(3) - 1));
        for (int part = 0; part < 3; part++) {
            all.add((long) x.asks(part, 0, 5, 5));
        }
        all.add((long) x.back());
        town(x, all);
        return all;
    }

    private static void town(NoZeroWithin x, List<Long> all) {
        for (int what = 0; what < 6; what++) {
            all.add((long) x.count(what));
        }
        for (int c = 0; c < 5; c++) {
            for (int what = 0; what < 4; what++) {
                all.add((long) x.told(c, what));
            }
            all.add((long) x.asks(0, c, 1, 1));
        }
        for (int f = 0; f < 6; f++) {
            for (int g = 0; g < 6; g++) {
                if (f != g) {
                    all.add((long) x.debt(f, g));
                }
            }
        }
    }

    /** A copy of nothing finds the size, clerks of nobody the sort; each number is what the book is less when it is 0. */
    private static void sheet(NoZeroWithin x, int s, List<Long> all) {
        int size = x.copy(s, 40, s, 40, 0) == 0 ? 40 : 0;
        while (size < 40 && x.copy(s, size + 1, s, size + 1, 0) == 0) {
            size++;
        }
        all.add((long) size);
        for (int sort = 0; sort < 3; sort++) {
            all.add((long) x.clerksBy(s, sort, 0, 0));
        }
        all.add(x.book(s, 0, 1));
        for (int i = Math.min(size, 40) - 1; i >= 0; i -= size > 20 ? 13 : 1) {
            x.cell(s, i, 0);
            all.add(x.book(s, 0, 1));
        }
    }
}
