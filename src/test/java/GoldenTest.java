/** Promises 21 to 26: the golden rows and summands. */
final class GoldenTest {
    private static final int ROW = 3000;

    private static final GoldenHeaps HEAPS = new GoldenHeaps();

    public static void main(String[] args) {
        for (int slack = 1; slack <= 5; slack++) {
            rows(slack);
            farRows(slack);
        }
        goldenWrong();
        lookUpsWrong();
        summands();
        leastPlaces();
        Check.finish("GoldenTest");
    }

    /** Promises 21 to 24, by the words that define the rows. */
    private static void rows(int slack) {
        boolean[] used = new boolean[10 * ROW];
        int a = 0;
        int many = 0;
        int next = 1;
        Check.due("A(0)", HEAPS.golden(slack, 0, false), 0);
        Check.due("B(0)", HEAPS.golden(slack, 0, true), 0);
        for (int n = 1; n <= ROW; n++) {
            a++;
            while (used[a]) {
                a++;
            }
            int b = a + slack * n;
            used[a] = true;
            used[b] = true;
            Check.due("A(" + n + ")", HEAPS.golden(slack, n, false), a);
            Check.due("B(" + n + ")", HEAPS.golden(slack, n, true), b);
            Check.due("goldenOf " + a, HEAPS.goldenOf(slack, a), 2 * n);
            Check.due("goldenOf " + b, HEAPS.goldenOf(slack, b), 2 * n + 1);
            Check.due("goldenPartner " + a, HEAPS.goldenPartner(slack, a), (long) b);
            Check.due("goldenPartner " + b, HEAPS.goldenPartner(slack, b), (long) a);
            Check.due("goldenMany below " + b, HEAPS.goldenMany(slack, b - 1), many);
            many++;
            Check.due("goldenMany " + b, HEAPS.goldenMany(slack, b), many);
            next = b;
        }
        Check.due("goldenMany 0", HEAPS.goldenMany(slack, 0), 0);
        Check.due("goldenMany 1", HEAPS.goldenMany(slack, 1), 0);
        Check.due("goldenMany", HEAPS.goldenMany(slack, next), ROW);
    }

    private static void farRows(int slack) {
        Model model = new Model();
        for (int n = 100000000; n > 0; n = n / 7 * 5 - 3) {
            Check.due("A(" + n + ")", HEAPS.golden(slack, n, false), model.golden(slack, n, false));
            Check.due("B(" + n + ")", HEAPS.golden(slack, n, true), model.golden(slack, n, true));
        }
        for (int back = 0; back < 300; back++) {
            int v = 500000000 - back;
            Check.due("goldenOf " + v, HEAPS.goldenOf(slack, v), model.goldenOf(slack, v));
            Check.due("goldenPartner " + v, HEAPS.goldenPartner(slack, v), model.goldenPartner(slack, v));
            Check.due("goldenMany " + v, HEAPS.goldenMany(slack, v), model.goldenMany(slack, v));
        }
    }

    private static void goldenWrong() {
        Check.due("golden", HEAPS.golden(1, 100000000, false), 161803398);
        Check.due("golden", HEAPS.golden(1, 100000000, true), 261803398);
        Check.due("golden", HEAPS.golden(5, 100000000, true), 619258240);
        Check.noRange("golden(0, 1)", () -> HEAPS.golden(0, 1, false));
        Check.noRange("golden(6, 1)", () -> HEAPS.golden(6, 1, true));
        Check.noRange("golden(1, -1)", () -> HEAPS.golden(1, -1, false));
        Check.noRange("golden(1, 100000001)", () -> HEAPS.golden(1, 100000001, false));
    }

    private static void lookUpsWrong() {
        for (int slack : new int[] {0, 6, Integer.MIN_VALUE, Integer.MAX_VALUE}) {
            Check.noRange("goldenOf", () -> HEAPS.goldenOf(slack, 1));
            Check.noRange("goldenPartner", () -> HEAPS.goldenPartner(slack, 1));
            Check.noRange("goldenMany", () -> HEAPS.goldenMany(slack, 1));
        }
        for (int v : new int[] {-1, 500000001, Integer.MIN_VALUE, Integer.MAX_VALUE}) {
            Check.noRange("goldenOf", () -> HEAPS.goldenOf(1, v));
            Check.noRange("goldenPartner", () -> HEAPS.goldenPartner(1, v));
            Check.noRange("goldenMany", () -> HEAPS.goldenMany(1, v));
        }
        Check.noRange("goldenOf", () -> HEAPS.goldenOf(1, 0));
        Check.noRange("goldenPartner", () -> HEAPS.goldenPartner(1, 0));
    }

    /** Promise 25. */
    private static void summands() {
        int[] due = {89, 8, 3, -1, -1};
        for (int index = 0; index < due.length; index++) {
            Check.due("summand of 100", HEAPS.summand(100, index), due[index]);
        }
        Check.due("summand of 1", HEAPS.summand(1, 0), 1);
        Check.due("summand of 2", HEAPS.summand(2, 0), 2);
        Check.due("summand of 3", HEAPS.summand(3, 0), 3);
        Check.due("summand of 4", HEAPS.summand(4, 1), 1);
        Check.due("no summand", HEAPS.summand(100, -1), -1);
        Check.due("no summand", HEAPS.summand(1, 1), -1);
        Check.due("the greatest one", HEAPS.summand(500000000, 0), 433494437);
        Check.due("the greatest one", HEAPS.summand(433494437, 0), 433494437);
        Check.due("no more", HEAPS.summand(433494437, 1), -1);
        Check.due("one less", HEAPS.summand(433494436, 0), 267914296);
        Check.due("one less", HEAPS.summand(433494436, 20), 1);
        int ahead = 1;
        int number = 1;
        for (int place = 0; place <= 41; place++) {
            Check.due("summand of " + number, HEAPS.summand(number, 0), number);
            Check.due("no other one", HEAPS.summand(number, 1), -1);
            Check.due("its place", HEAPS.leastPlace(number), place);
            number += ahead;
            ahead = number - ahead;
        }
        for (int v : new int[] {1, 7, 88, 143, 377, 378, 987654, 499999999, 500000000, 433494436}) {
            int sum = 0;
            for (int index = 0; HEAPS.summand(v, index) > 0; index++) {
                sum += HEAPS.summand(v, index);
            }
            Check.due("sum of summands", sum, v);
        }
        Check.noRange("summand(0)", () -> HEAPS.summand(0, 0));
        Check.noRange("summand(500000001)", () -> HEAPS.summand(500000001, 0));
        Check.noRange("summand(-1)", () -> HEAPS.summand(-1, -1));
    }

    /** Promise 26, and what section 3 says of it. */
    private static void leastPlaces() {
        int[] due = {0, 1, 2, 0, 3, 0, 1, 4, 0, 1, 2, 0, 5};
        for (int v = 1; v <= due.length; v++) {
            Check.due("leastPlace " + v, HEAPS.leastPlace(v), due[v - 1]);
        }
        Check.due("leastPlace", HEAPS.leastPlace(433494437), 41);
        for (int v = 1; v <= ROW; v++) {
            Check.due("row of " + v, HEAPS.leastPlace(v) % 2, HEAPS.goldenOf(1, v) % 2);
            Check.due("row of " + (500000001 - v), HEAPS.leastPlace(500000001 - v) % 2,
                HEAPS.goldenOf(1, 500000001 - v) % 2);
        }
        Check.noRange("leastPlace(0)", () -> HEAPS.leastPlace(0));
        Check.noRange("leastPlace(-1)", () -> HEAPS.leastPlace(-1));
        Check.noRange("leastPlace(500000001)", () -> HEAPS.leastPlace(500000001));
    }
}
