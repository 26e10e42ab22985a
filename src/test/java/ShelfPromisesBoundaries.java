/** Promises 25 to 30, shelves: a method for each sentence. */
final class ShelfPromisesBoundaries {
    private ShelfPromisesBoundaries() {
    }

    static void run() {
        promise25Nothing();
        promise25Lot();
        promise25Wants();
        promise25Takings();
        promise25Refusals();
        promise26Rows();
        promise26SizeBelowZero();
        promise27Elements();
        promise27NoSuchShelf();
        promise27NoSuchPlace();
        promise28Copies();
        promise28AsTheyAllWereBefore();
        promise28NothingOfEither();
        promise28NoRowOrNotOfOneKind();
        promise28BeyondAnEnd();
        promise29Weight();
        promise29OfMarked();
        promise29OfCooled();
        promise29OfFeast();
        promise29Refusals();
        promise30Mark();
        promise30Refusals();
        promise30WithoutMark();
    }

    /** Shelves: 0 nothing, 1 a lot, 2 and 3 three shorts and longs, 4 and 5 none of these, 6 shorts 1 to 12. */
    private static FlowerClock withShelves() {
        FlowerClock clock = Clocks.of(1);
        clock.buyer(1000);
        for (int sort = 0; sort < 6; sort++) {
            clock.want(0, sort, sort + 1, sort + 7);
        }
        clock.lot(100, 5, 0, 2);
        clock.keep(1, 1, 0);
        clock.make(2, 3, 3);
        clock.make(3, 4, 3);
        clock.make(4, 3, 0);
        clock.make(5, 4, 0);
        clock.keep(6, 3, 0);
        return clock;
    }

    private static void promise25Nothing() {
        Checks.holds(25, "SHELF d gets: what = 0 nothing (k matters with 1 and 3 alone)");
        FlowerClock clock = withShelves();
        int[] any = {0, -1, 40, 12, Clocks.MIN, Clocks.MAX, 1};
        for (int d = 0; d < any.length; d++) {
            int of = d;
            Checks.same("keep(" + d + ", 0, " + any[d] + ")", clock.keep(d, 0, any[d]), 0);
            Checks.refused(clock, "it holds nothing", -11, () -> clock.weight(of));
            Checks.same("keep(" + d + ", 4, " + any[d] + ")", clock.keep(d, 4, any[d]), 0);
            Clocks.rowIs(clock, d, 0);
        }
        for (int k : new int[] {-1, 1, 40, Clocks.MIN, Clocks.MAX}) {
            Checks.refused(clock, "keep(7, 1, " + k + ")", -1, () -> clock.keep(7, 1, k));
            Checks.refused(clock, "keep(7, 3, " + k + ")", -1, () -> clock.keep(7, 3, k));
        }
    }

    private static void promise25Lot() {
        Checks.holds(25, "1 LOT k");
        FlowerClock clock = Clocks.of(1);
        for (int lot = 0; lot < 40; lot++) {
            clock.lot(0, 1 + lot, 0, 0);
        }
        Checks.same("the first", clock.keep(0, 1, 0), 0);
        Checks.same("the last", clock.keep(7, 1, 39), 0);
        Checks.same("weight(0)", clock.weight(0), 11);
        Checks.same("weight(7)", clock.weight(7), 50);
        Checks.same("another in its place", clock.keep(7, 1, 1), 0);
        Checks.same("weight(7)", clock.weight(7), 12);
        Checks.refused(clock, "LOT 40", -1, () -> clock.keep(0, 1, 40));
    }

    private static void promise25Wants() {
        Checks.holds(25, "3 a ROW of shorts: WANTS of BUYER k by SORTS, then its LIMITS");
        FlowerClock clock = Clocks.of(1);
        for (int buyer = 0; buyer < 12; buyer++) {
            clock.buyer(1000);
        }
        clock.want(11, 0, 1000, 99);
        clock.want(11, 5, 999, 98);
        Checks.same("of the last", clock.keep(0, 3, 11), 0);
        Clocks.rowIs(clock, 0, 1000, 0, 0, 0, 0, 999, 99, 0, 0, 0, 0, 98);
        Checks.same("of the first", clock.keep(1, 3, 0), 0);
        Clocks.rowIs(clock, 1, 0, 0, 0, 0, 0, 0, 0, 0, 0, 0, 0, 0);
        clock.want(11, 0, 1, 1);
        Checks.same("it stays as it was", clock.element(0, 0), 1000);
        Checks.refused(clock, "of BUYER 12", -1, () -> clock.keep(0, 3, 12));
        clock.make(6, 3, 1);
        clock.make(7, 4, 1);
        Checks.refused(clock, "they are no longs", -12, () -> clock.copy(0, 0, 7, 0, 1));
        Checks.same("they are shorts", clock.copy(0, 0, 6, 0, 1), 1);
    }

    private static void promise25Takings() {
        Checks.holds(25, "4 a ROW of longs: TAKINGS of GROWERS: 0.");
        FlowerClock none = Clocks.of(0);
        Checks.same("without GROWERS", none.keep(0, 4, 0), 0);
        Clocks.rowIs(none, 0);
        FlowerClock clock = Clocks.of(10, 1000000, 1000, 99);
        clock.lot(9, 1000, 0, 0);
        Checks.same("of nothing", clock.keep(1, 4, 0), 0);
        clock.sell(0);
        Checks.same("of ten", clock.keep(0, 4, 0), 0);
        Clocks.rowIs(clock, 0, 0, 0, 0, 0, 0, 0, 0, 0, 0, 99000);
        Clocks.rowIs(clock, 1, 0, 0, 0, 0, 0, 0, 0, 0, 0, 0);
        clock.make(2, 4, 1);
        Checks.same("they are longs", clock.copy(0, 9, 2, 0, 1), 1);
    }

    private static void promise25Refusals() {
        Checks.holds(25, "-1");
        FlowerClock clock = withShelves();
        for (int d : new int[] {-1, 8, Clocks.MIN, Clocks.MAX}) {
            for (int what : new int[] {0, 1, 3, 4}) {
                Checks.refused(clock, "keep(" + d + ", " + what + ", 0)", -1, () -> clock.keep(d, what, 0));
            }
        }
        for (int what : new int[] {-1, 2, 5, Clocks.MIN, Clocks.MAX}) {
            Checks.refused(clock, "keep(1, " + what + ", 0)", -1, () -> clock.keep(1, what, 0));
        }
    }

    private static void promise26Rows() {
        Checks.holds(26, "SHELF d gets a ROW of n shorts, or longs, 0 (what 3, 4; n up to 60): 0.");
        FlowerClock clock = withShelves();
        int[] zeros = new int[60];
        for (int what = 3; what <= 4; what++) {
            Checks.same("of none", clock.make(6, what, 0), 0);
            Clocks.rowIs(clock, 6);
            Checks.same("of one", clock.make(6, what, 1), 0);
            Clocks.rowIs(clock, 6, 0);
            Checks.same("of sixty", clock.make(6, what, 60), 0);
            Clocks.rowIs(clock, 6, zeros);
            Checks.same("of the kind told", clock.copy(6, 0, what - 1, 0, 0), 0);
            Checks.same("and not of the other", clock.copy(6, 0, what, 0, 0), -12);
        }
        clock.keep(6, 3, 0);
        Checks.same("in place of WANTS", clock.make(6, 3, 12), 0);
        Clocks.rowIs(clock, 6, 0, 0, 0, 0, 0, 0, 0, 0, 0, 0, 0, 0);
        Clocks.buy(clock, 0, 9, 10);
        clock.keep(6, 4, 0);
        Clocks.rowIs(clock, 6, 90);
        Checks.same("in place of TAKINGS", clock.make(6, 4, 1), 0);
        Clocks.rowIs(clock, 6, 0);
        Checks.same("in place of a LOT", clock.make(1, 3, 1), 0);
        Checks.same("a LOT no more", clock.weight(1), -12);
        Checks.holds(26, "-1");
        int[][] wrong = {{-1, 3, 1}, {8, 3, 1}, {Clocks.MIN, 3, 1}, {Clocks.MAX, 3, 1}, {2, 2, 1}, {2, 5, 1}, {2, 0, 0},
            {2, 1, 0}, {2, -1, 1}, {2, Clocks.MIN, 1}, {2, Clocks.MAX, 1}, {2, 3, 61}, {2, 4, 61}, {2, 3, Clocks.MAX}};
        for (int[] call : wrong) {
            Checks.refused(clock, "make(" + call[0] + ", " + call[1] + ", " + call[2] + ")", -1,
                () -> clock.make(call[0], call[1], call[2]));
        }
    }

    private static void promise26SizeBelowZero() {
        Checks.holds(26, "-14: n is below 0.");
        FlowerClock clock = withShelves();
        for (int n : new int[] {-1, -60, Clocks.MIN}) {
            Checks.refused(clock, "make(6, 3, " + n + ")", -14, () -> clock.make(6, 3, n));
            Checks.refused(clock, "make(6, 4, " + n + ")", -14, () -> clock.make(6, 4, n));
            Checks.refused(clock, "make(8, 3, " + n + ")", -1, () -> clock.make(8, 3, n));
            Checks.refused(clock, "make(6, 2, " + n + ")", -1, () -> clock.make(6, 2, n));
        }
    }

    private static void promise27Elements() {
        Checks.holds(27, "Element i, from 0, of the ROW on SHELF d.");
        FlowerClock clock = withShelves();
        for (int i = 0; i < 12; i++) {
            Checks.same("element(6, " + i + ")", clock.element(6, i), i + 1);
        }
        clock.make(7, 4, 60);
        Checks.same("element(7, 59)", clock.element(7, 59), 0);
    }

    private static void promise27NoSuchShelf() {
        Checks.holds(27, "IllegalArgumentException: no such SHELF");
        FlowerClock clock = withShelves();
        for (int d : new int[] {-1, 8, Clocks.MIN, Clocks.MAX}) {
            Checks.thrown(clock, "element(" + d + ", 0)", IllegalArgumentException.class, () -> clock.element(d, 0));
            Checks.thrown(clock, "element(" + d + ", -1)", IllegalArgumentException.class, () -> clock.element(d, -1));
        }
    }

    private static void promise27NoSuchPlace() {
        Checks.holds(27, "IllegalStateException: nothing is held, it is no ROW, or has no such place.");
        FlowerClock clock = withShelves();
        int[][] wrong = {{0, 0}, {1, 0}, {4, 0}, {5, 0}, {2, 3}, {3, 3}, {2, -1}, {3, -1}, {6, 12}, {6, Clocks.MIN},
            {6, Clocks.MAX}, {0, -1}, {1, -1}, {7, 0}};
        for (int[] call : wrong) {
            Checks.thrown(clock, "element(" + call[0] + ", " + call[1] + ")", IllegalStateException.class,
                () -> clock.element(call[0], call[1]));
        }
        clock.make(6, 3, 60);
        clock.make(6, 3, 1);
        Checks.thrown(clock, "beyond a shorter ROW", IllegalStateException.class, () -> clock.element(6, 1));
        clock.keep(6, 0, 0);
        Checks.thrown(clock, "when nothing is held any more", IllegalStateException.class, () -> clock.element(6, 0));
    }

    private static void promise28Copies() {
        Checks.holds(28, "n elements of the ROW on SHELF d, from place i, come to the ROW on SHELF e, from place j");
        FlowerClock clock = withShelves();
        Checks.same("the first", clock.copy(6, 0, 2, 0, 1), 1);
        Clocks.rowIs(clock, 2, 1, 0, 0);
        Checks.same("the last to the last", clock.copy(6, 11, 2, 2, 1), 1);
        Clocks.rowIs(clock, 2, 1, 0, 12);
        Checks.same("as many as there are", clock.copy(6, 4, 2, 0, 3), 3);
        Clocks.rowIs(clock, 2, 5, 6, 7);
        Checks.same("all back", clock.copy(2, 0, 6, 9, 3), 3);
        Clocks.rowIs(clock, 6, 1, 2, 3, 4, 5, 6, 7, 8, 9, 5, 6, 7);
        Checks.same("none", clock.copy(6, 0, 2, 0, 0), 0);
        Clocks.rowIs(clock, 2, 5, 6, 7);
        clock.want(0, 5, 1000, 99);
        clock.lot(50, 1000, 0, 0);
        clock.credit(0, 1000000);
        clock.sell(1);
        clock.keep(7, 4, 0);
        Checks.same("longs", clock.copy(7, 0, 3, 2, 1), 1);
        Clocks.rowIs(clock, 3, 0, 0, 99000);
        Checks.holds(28, "-1");
        for (int d : new int[] {-1, 8, Clocks.MIN, Clocks.MAX}) {
            Checks.refused(clock, "copy(" + d + ", ..)", -1, () -> clock.copy(d, 0, 2, 0, 1));
            Checks.refused(clock, "copy(.., " + d + ", ..)", -1, () -> clock.copy(2, 0, d, 0, 1));
        }
    }

    private static void promise28AsTheyAllWereBefore() {
        Checks.holds(28, "(as they all were before): n.");
        FlowerClock up = withShelves();
        Checks.same("up by one", up.copy(6, 0, 6, 1, 11), 11);
        Clocks.rowIs(up, 6, 1, 1, 2, 3, 4, 5, 6, 7, 8, 9, 10, 11);
        FlowerClock down = withShelves();
        Checks.same("down by one", down.copy(6, 1, 6, 0, 11), 11);
        Clocks.rowIs(down, 6, 2, 3, 4, 5, 6, 7, 8, 9, 10, 11, 12, 12);
        Checks.same("on itself", down.copy(6, 0, 6, 0, 12), 12);
        Clocks.rowIs(down, 6, 2, 3, 4, 5, 6, 7, 8, 9, 10, 11, 12, 12);
    }

    private static void promise28NothingOfEither() {
        Checks.holds(28, "-11: of either");
        FlowerClock clock = withShelves();
        int[][] wrong = {{0, 0, 2, 0, 1}, {2, 0, 0, 0, 1}, {0, 0, 7, 0, 0}, {0, 0, 0, 0, 0}, {1, 0, 0, 0, 0},
            {0, 0, 1, 0, 0}, {0, -1, 2, 0, 1}, {2, 0, 0, 0, -1}};
        for (int[] call : wrong) {
            copyRefused(clock, call, -11);
        }
    }

    private static void copyRefused(FlowerClock clock, int[] call, int due) {
        String told = "copy(" + call[0] + ", " + call[1] + ", " + call[2] + ", " + call[3] + ", " + call[4] + ")";
        Checks.refused(clock, told, due, () -> clock.copy(call[0], call[1], call[2], call[3], call[4]));
    }

    private static void promise28NoRowOrNotOfOneKind() {
        Checks.holds(28, "-12: one is no ROW, or they are not of one kind");
        FlowerClock clock = withShelves();
        int[][] wrong = {{1, 0, 2, 0, 1}, {2, 0, 1, 0, 1}, {1, 0, 1, 0, 0}, {1, 0, 3, 0, 0}, {2, 0, 3, 0, 1},
            {3, 0, 2, 0, 1}, {4, 0, 5, 0, 0}, {5, 0, 4, 0, 0}, {2, -1, 3, 0, 1}, {2, 0, 3, 4, 1}, {1, 0, 1, 0, -1}};
        for (int[] call : wrong) {
            copyRefused(clock, call, -12);
        }
    }

    private static void promise28BeyondAnEnd() {
        Checks.holds(28, "-13: n, i or j is below 0, or beyond either's end (n 0 at the end is not).");
        FlowerClock clock = withShelves();
        int max = Clocks.MAX;
        int min = Clocks.MIN;
        int[][] wrong = {{6, 0, 2, 0, -1}, {6, -1, 2, 0, 1}, {6, 0, 2, -1, 1}, {6, -1, 2, 0, 0}, {6, 0, 2, -1, 0},
            {6, 12, 2, 0, 1}, {6, 0, 2, 3, 1}, {6, 10, 2, 0, 3}, {6, 0, 2, 0, 4}, {6, 0, 2, 1, 3}, {2, 0, 6, 0, 4},
            {6, 13, 2, 0, 0}, {6, 0, 2, 4, 0}, {4, 1, 4, 0, 0}, {5, 0, 5, 1, 0}, {4, 0, 4, 0, 1},
            {6, max, 2, 0, 1}, {6, 1, 2, 0, max}, {6, 0, 2, max, 1}, {6, max, 2, 0, max}, {6, 0, 2, 1, max},
            {6, min, 2, 0, 1}, {6, 0, 2, min, 1}, {6, 0, 2, 0, min}, {6, min, 2, min, min}, {6, max, 2, max, min}};
        for (int[] call : wrong) {
            copyRefused(clock, call, -13);
        }
        Checks.same("none at the end of either", clock.copy(6, 12, 2, 3, 0), 0);
        Checks.same("none of none", clock.copy(4, 0, 4, 0, 0), 0);
        Checks.same("no longs of none", clock.copy(3, 3, 5, 0, 0), 0);
        Checks.same("up to the end of either", clock.copy(6, 9, 2, 0, 3), 3);
        clock.make(7, 3, 60);
        Checks.same("the whole of sixty", clock.copy(7, 0, 7, 0, 60), 60);
        copyRefused(clock, new int[] {7, 0, 7, 0, 61}, -13);
    }

    private static int weightOf(int told, int stems, int extra) {
        FlowerClock clock = Clocks.of(1);
        clock.lot(told, stems, 0, extra);
        clock.keep(0, 1, 0);
        return clock.weight(0);
    }

    private static void promise29Weight() {
        Checks.holds(29, "The WEIGHT of the LOT on SHELF d: 10 and the stems that are left");
        Checks.same("of one stem", weightOf(0, 1, 3), 11);
        Checks.same("of a thousand", weightOf(0, 1000, 3), 1010);
        FlowerClock clock = Clocks.of(1, 1000, 5, 10);
        clock.lot(200, 5, 0, 1);
        clock.sell(0);
        clock.keep(0, 1, 0);
        Checks.same("of none, MARK 1, cooled", clock.weight(0), 2 * (10 + 100));
        Checks.refused(clock, "weight(0) changes nothing", 220, () -> clock.weight(0));
    }

    private static void promise29OfMarked() {
        Checks.holds(29, "of MARKED, COOLED ones 100 times MARK more");
        for (int mark = 1; mark <= 3; mark++) {
            Checks.same("MARK " + mark, weightOf(100, 5, mark), 15 + 100 * mark);
            Checks.same("cooled, MARK " + mark, weightOf(200, 5, mark), 2 * (15 + 100 * mark));
        }
        FlowerClock clock = Clocks.of(1);
        clock.lot(100, 5, 0, 3);
        clock.found(0, 0);
        clock.keep(0, 1, 0);
        Checks.same("whatever was FOUND", clock.weight(0), 315);
    }

    private static void promise29OfCooled() {
        Checks.holds(29, "of COOLED ones twice all that");
        Checks.same("of one stem", weightOf(200, 1, 1), 2 * (10 + 1 + 100));
        Checks.same("of a thousand", weightOf(200, 1000, 3), 2 * (10 + 1000 + 300));
        Checks.same("of a marked one not", weightOf(100, 1000, 3), 10 + 1000 + 300);
    }

    private static void promise29OfFeast() {
        Checks.holds(29, "of FEAST ones DAY more.");
        Checks.same("DAY 0", weightOf(300, 5, 0), 15);
        Checks.same("DAY 1", weightOf(300, 5, 1), 16);
        Checks.same("DAY 1000", weightOf(300, 1000, 1000), 2010);
    }

    private static void promise29Refusals() {
        Checks.holds(29, "-1, -11, -12.");
        FlowerClock clock = withShelves();
        for (int d : new int[] {-1, 8, Clocks.MIN, Clocks.MAX}) {
            Checks.refused(clock, "weight(" + d + ")", -1, () -> clock.weight(d));
        }
        Checks.refused(clock, "of nothing", -11, () -> clock.weight(0));
        for (int d = 2; d <= 6; d++) {
            int of = d;
            Checks.refused(clock, "of a ROW", -12, () -> clock.weight(of));
        }
    }

    private static void promise30Mark() {
        Checks.holds(30, "The FAILURE of the LOT on SHELF d is thrown, and caught: its MARK.");
        for (int told = 100; told <= 200; told += 100) {
            for (int mark = 1; mark <= 3; mark++) {
                FlowerClock clock = Clocks.of(1);
                clock.lot(told, 5, 0, mark);
                clock.found(0, 0);
                clock.keep(7, 1, 0);
                int due = mark;
                Checks.refused(clock, "toss changes nothing", due, () -> clock.toss(7));
                Checks.same("toss again", clock.toss(7), mark);
            }
        }
    }

    private static void promise30Refusals() {
        Checks.holds(30, "-1, -11, -12");
        FlowerClock clock = withShelves();
        for (int d : new int[] {-1, 8, Clocks.MIN, Clocks.MAX}) {
            Checks.refused(clock, "toss(" + d + ")", -1, () -> clock.toss(d));
        }
        Checks.refused(clock, "of nothing", -11, () -> clock.toss(0));
        for (int d = 2; d <= 6; d++) {
            int of = d;
            Checks.refused(clock, "of a ROW", -12, () -> clock.toss(of));
        }
    }

    private static void promise30WithoutMark() {
        Checks.holds(30, "-15: those without MARK have none.");
        FlowerClock clock = Clocks.of(1);
        clock.lot(0, 5, 0, 3);
        clock.lot(300, 5, 0, 3);
        clock.keep(0, 1, 0);
        clock.keep(1, 1, 1);
        Checks.refused(clock, "of a PLAIN one", -15, () -> clock.toss(0));
        Checks.refused(clock, "of a FEAST one", -15, () -> clock.toss(1));
    }
}
