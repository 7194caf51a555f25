/** Boundary cases of the document's 'Terms': one method for each sentence or part of one that has an edge. */
public final class TermsEdgeTest {
    private static final Check CHECK = new Check("TermsEdgeTest");
    private static final Class<IllegalArgumentException> RANGE = IllegalArgumentException.class;
    private static final Class<UnsupportedOperationException> NO_ROOM = UnsupportedOperationException.class;
    /** What is the same exactly and by rule is looked at in both ways. */
    private static final int[] BOTH = {5, 0};

    public static void main(String[] args) {
        timesAre0To2000();
        nowIs0AtFirstAndGoesOn();
        kindsAre0To7();
        doorsAtMost4();
        doorsOpenToALaterTime();
        trucksAtMost12();
        needIs1To300();
        rankIs1To9();
        statesAre0To3();
        startIsTheArrival();
        startIsTheOpening();
        startIsNow();
        startIsWhenTheDoorIsFree();
        startIsTheEndOfTheOneBefore();
        kindIsOneThatTheDoorTakes();
        doorIsNotOut();
        endIsNotBehindTheClosing();
        endOfALaterOneIsNotBehindTheClosing();
        freeIsNotBeforeNow();
        freeIsNotTheTruckAtAnotherDoor();
        costIsStartLessArrival();
        costIs5000ForNothing();
        exactIsForAtMostSoMany();
        exactTakesTheLeastCost();
        exactTiesByTheLowestDoor();
        exactTiesByNothingBehindAllDoors();
        exactTiesByTheLesserStart();
        ruleGoesByRank();
        ruleGoesByArrivalThen();
        ruleGoesByNumberThen();
        ruleComesBehindThoseSoFar();
        ruleTakesTheLeastStart();
        ruleTakesTheLowestOfEqualDoors();
        ruleGivesNothingIfNoneTakesIt();
        CHECK.finish();
    }

    private static DockBook oneDoor(int from, int to, int[]... trucks) {
        return Books.of(Books.rows(Books.row(1, from, to)), trucks);
    }

    private static void planned(String what, DockBook book, int most, int cost, String plan) {
        CHECK.same(what + ", assign(" + most + ")", book.assign(most), cost);
        CHECK.same(what + ", plan by assign(" + most + ")", Books.plan(book, book.count(1)), plan);
    }

    private static void timesAre0To2000() {
        DockBook book = new DockBook();
        CHECK.refused("opening -1", RANGE, () -> book.door(1, -1, 2000));
        CHECK.refused("closing 2001", RANGE, () -> book.door(1, 0, 2001));
        CHECK.refused("arrival -1", RANGE, () -> book.truck(0, -1, 1, 1));
        CHECK.refused("arrival 2001", RANGE, () -> book.truck(0, 2001, 1, 1));
        CHECK.same("door from 0 to 2000", book.door(1, 0, 2000), 0);
        CHECK.same("arrival 0", book.truck(0, 0, 1, 1), 0);
        CHECK.same("arrival 2000", book.truck(0, 2000, 1, 1), 1);
        planned("the last time begins nothing", book, 5, 5000, "0@0 -");
        book.late(1, 1999);
        planned("the last minute", book, 5, 0, "0@0 0@1999");
    }

    private static void nowIs0AtFirstAndGoesOn() {
        DockBook book = new DockBook();
        CHECK.same("now at first", book.count(6), 0);
        book.pass(1);
        CHECK.same("now", book.count(6), 1);
        CHECK.refused("back to 0", RANGE, () -> book.pass(0));
        book.pass(2000);
        CHECK.refused("behind the last time", RANGE, () -> book.pass(2001));
        CHECK.same("the last now", book.count(6), 2000);
    }

    private static void kindsAre0To7() {
        DockBook book = new DockBook();
        CHECK.refused("kind -1", RANGE, () -> book.truck(-1, 0, 1, 1));
        CHECK.refused("kind 8", RANGE, () -> book.truck(8, 0, 1, 1));
        CHECK.refused("kind 32, as 0 in a shift", RANGE, () -> book.truck(32, 0, 1, 1));
        CHECK.refused("bits 256, kind 8", RANGE, () -> book.door(256, 0, 1));
        CHECK.refused("bits -1", RANGE, () -> book.door(-1, 0, 1));
        CHECK.same("bits 255, all kinds", book.door(255, 0, 10), 0);
        for (int kind = 0; kind <= 7; kind++) {
            CHECK.same("kind " + kind, book.truck(kind, 0, 1, 1), kind);
            CHECK.same("told kind " + kind, book.told(kind, 6), kind);
        }
        CHECK.same("a door for all kinds", book.assign(5), 0 + 1 + 2 + 3 + 4 + 5 + 6 + 7);
    }

    private static void doorsAtMost4() {
        DockBook book = new DockBook();
        for (int i = 0; i < 4; i++) {
            CHECK.same("door " + i, book.door(1, 0, 10), i);
        }
        CHECK.refused("a fifth door", NO_ROOM, () -> book.door(1, 0, 10));
        book.out(0, true);
        CHECK.refused("a door that is out leaves no room", NO_ROOM, () -> book.door(1, 0, 10));
        CHECK.same("doors", book.count(0), 4);
    }

    private static void doorsOpenToALaterTime() {
        DockBook book = new DockBook();
        CHECK.refused("to an earlier time", RANGE, () -> book.door(1, 6, 5));
        CHECK.refused("to the same time", RANGE, () -> book.door(1, 6, 6));
        CHECK.refused("from the last time", RANGE, () -> book.door(1, 2000, 2000));
        CHECK.same("to the next time", book.door(1, 6, 7), 0);
        book.truck(0, 0, 1, 1);
        book.truck(0, 0, 1, 1);
        planned("a door for one minute", book, 5, 5006, "0@6 -");
    }

    private static void trucksAtMost12() {
        DockBook book = oneDoor(0, 100);
        for (int i = 0; i < 12; i++) {
            CHECK.same("truck " + i, book.truck(0, 0, 1, 1), i);
        }
        CHECK.refused("a thirteenth truck", NO_ROOM, () -> book.truck(0, 0, 1, 1));
        book.assign(0);
        book.call(0);
        book.pass(1);
        CHECK.same("one departs", Books.clearAndDepart(book, 0), 1);
        CHECK.refused("a truck that is gone leaves no room", NO_ROOM, () -> book.truck(0, 0, 1, 1));
        book.cancel(1);
        CHECK.refused("a cancelled truck leaves no room", NO_ROOM, () -> book.truck(0, 0, 1, 1));
        CHECK.same("trucks", book.count(1), 12);
    }

    private static void needIs1To300() {
        DockBook book = oneDoor(0, 301);
        CHECK.refused("need 0", RANGE, () -> book.truck(0, 0, 0, 1));
        CHECK.refused("need 301", RANGE, () -> book.truck(0, 0, 301, 1));
        CHECK.same("need 300", book.truck(0, 0, 300, 1), 0);
        CHECK.same("need 1", book.truck(0, 0, 1, 2), 1);
        planned("the least and the greatest need", book, 5, 1, "0@1 0@0");
        planned("the greatest and the least need", book, 0, 300, "0@0 0@300");
    }

    private static void rankIs1To9() {
        DockBook book = oneDoor(0, 100);
        CHECK.refused("rank 0", RANGE, () -> book.truck(0, 0, 1, 0));
        CHECK.refused("rank 10", RANGE, () -> book.truck(0, 0, 1, 10));
        CHECK.same("rank 9", book.truck(0, 0, 10, 9), 0);
        CHECK.same("rank 1", book.truck(0, 0, 10, 1), 1);
        planned("the first rank before the last", book, 0, 10, "0@10 0@0");
    }

    private static void statesAre0To3() {
        DockBook book = oneDoor(0, 100, Books.row(0, 0, 1, 1), Books.row(0, 0, 1, 1));
        CHECK.same("waiting", book.told(0, 0), 0);
        book.assign(5);
        CHECK.same("waiting with a plan", book.told(0, 0), 0);
        book.call(0);
        CHECK.same("at a door", book.told(0, 0), 1);
        book.pass(1);
        Books.clearAndDepart(book, 0);
        CHECK.same("gone", book.told(0, 0), 2);
        book.cancel(1);
        CHECK.same("cancelled", book.told(1, 0), 3);
    }

    private static void startIsTheArrival() {
        for (int most : BOTH) {
            DockBook book = oneDoor(20, 100, Books.row(0, 21, 5, 1));
            book.pass(20);
            planned("an arrival behind opening and now", book, most, 0, "0@21");
        }
    }

    private static void startIsTheOpening() {
        for (int most : BOTH) {
            DockBook book = oneDoor(21, 100, Books.row(0, 20, 5, 1));
            book.pass(20);
            planned("an opening behind arrival and now", book, most, 1, "0@21");
        }
    }

    private static void startIsNow() {
        for (int most : BOTH) {
            DockBook book = oneDoor(20, 100, Books.row(0, 20, 5, 1));
            book.pass(21);
            planned("now behind arrival and opening", book, most, 1, "0@21");
        }
    }

    private static void startIsWhenTheDoorIsFree() {
        for (int most : BOTH) {
            DockBook book = oneDoor(0, 100, Books.row(0, 0, 20, 1));
            book.assign(5);
            book.pass(1);
            book.call(0);
            book.truck(0, 20, 5, 1);
            CHECK.same("free behind the arrival", book.assign(most), 1);
            CHECK.same("from its called start, not from its planned one", book.told(1, 2), 21);
            book.late(1, 22);
            book.assign(most);
            CHECK.same("free before the arrival", book.told(1, 2), 22);
        }
    }

    private static void startIsTheEndOfTheOneBefore() {
        for (int most : BOTH) {
            DockBook book = oneDoor(0, 100, Books.row(0, 0, 20, 1), Books.row(0, 19, 20, 2),
                    Books.row(0, 39, 20, 3), Books.row(0, 61, 20, 4));
            planned("ends behind arrivals, then an arrival behind an end", book, most, 0 + 1 + 1 + 0,
                    "0@0 0@20 0@40 0@61");
        }
    }

    private static void kindIsOneThatTheDoorTakes() {
        for (int most : BOTH) {
            for (int kind = 0; kind <= 7; kind++) {
                int[][] truck = Books.rows(Books.row(kind, 0, 5, 1));
                int[][] all = Books.rows(Books.row(255 - (1 << kind), 0, 10));
                planned("all kinds but " + kind, Books.of(all, truck), most, 5000, "-");
                int[][] both = Books.rows(Books.row(255 - (1 << kind), 0, 10), Books.row(1 << kind, 3, 10));
                planned("a door for kind " + kind + " alone", Books.of(both, truck), most, 3, "1@3");
            }
        }
    }

    private static void doorIsNotOut() {
        for (int most : BOTH) {
            DockBook book = Books.of(Books.rows(Books.row(1, 0, 50), Books.row(1, 9, 50)),
                    Books.rows(Books.row(0, 0, 5, 1)));
            book.out(0, true);
            planned("the other door", book, most, 9, "1@9");
            book.out(1, true);
            planned("all doors out", book, most, 5000, "-");
            book.out(0, false);
            planned("back again", book, most, 0, "0@0");
        }
    }

    private static void endIsNotBehindTheClosing() {
        for (int most : BOTH) {
            planned("it ends at the closing", oneDoor(10, 20, Books.row(0, 0, 10, 1)), most, 10, "0@10");
            planned("it ends one behind it", oneDoor(10, 20, Books.row(0, 0, 11, 1)), most, 5000, "-");
            planned("its arrival is just early enough", oneDoor(10, 20, Books.row(0, 15, 5, 1)), most, 0, "0@15");
            planned("its arrival is too late", oneDoor(10, 20, Books.row(0, 16, 5, 1)), most, 5000, "-");
            DockBook book = oneDoor(10, 20, Books.row(0, 0, 5, 1));
            book.pass(15);
            planned("now is just early enough", book, most, 15, "0@15");
            book.pass(16);
            planned("now is too late", book, most, 5000, "-");
        }
    }

    private static void endOfALaterOneIsNotBehindTheClosing() {
        for (int most : BOTH) {
            planned("the second ends at the closing",
                    oneDoor(0, 30, Books.row(0, 0, 10, 1), Books.row(0, 0, 20, 2)), most, 10, "0@0 0@10");
            planned("the second would end one behind it",
                    oneDoor(0, 29, Books.row(0, 0, 10, 1), Books.row(0, 0, 20, 2)), most, 5000, "0@0 -");
            DockBook busy = oneDoor(0, 30, Books.row(0, 0, 20, 1));
            busy.assign(5);
            busy.call(0);
            busy.truck(0, 0, 10, 1);
            busy.truck(0, 0, 11, 1);
            planned("behind the one at the door", busy, most, 5020, "0@0 0@20 -");
        }
    }

    private static void freeIsNotBeforeNow() {
        for (int most : BOTH) {
            DockBook book = oneDoor(0, 100, Books.row(0, 0, 20, 1));
            book.assign(5);
            book.call(0);
            book.truck(0, 0, 5, 1);
            book.pass(19);
            planned("now before the end", book, most, 20, "0@0 0@20");
            book.pass(20);
            planned("now at the end", book, most, 20, "0@0 0@20");
            book.pass(21);
            planned("now behind the end", book, most, 21, "0@0 0@21");
            CHECK.same("bound then", book.bound(), 21);
        }
    }

    private static void freeIsNotTheTruckAtAnotherDoor() {
        for (int most : BOTH) {
            DockBook book = Books.of(Books.rows(Books.row(1, 0, 100), Books.row(2, 0, 100)),
                    Books.rows(Books.row(0, 0, 20, 1), Books.row(1, 0, 20, 1)));
            book.assign(5);
            book.call(0);
            planned("only door 0 is busy", book, most, 0, "0@0 1@0");
            book.pass(20);
            Books.clearAndDepart(book, 0);
            book.truck(0, 15, 5, 1);
            planned("a door that was left is free", book, most, 20 + 5, "0@0 1@20 0@20");
        }
    }

    private static void costIsStartLessArrival() {
        for (int most : BOTH) {
            planned("no waiting", oneDoor(0, 100, Books.row(0, 7, 5, 1)), most, 0, "0@7");
            planned("the longest waiting", oneDoor(1999, 2000, Books.row(0, 0, 1, 1)), most, 1999, "0@1999");
        }
    }

    private static void costIs5000ForNothing() {
        DockBook book = new DockBook();
        for (int i = 0; i < 12; i++) {
            book.truck(i % 8, 2000, 300, 9);
        }
        CHECK.same("twelve without a plan yet", book.count(7), 60000);
        CHECK.same("twelve without doors", book.assign(5), 60000);
        CHECK.same("bound of twelve without doors", book.bound(), 60000);
        for (int i = 0; i < 12; i++) {
            book.cancel(i);
        }
        CHECK.same("none waits", book.assign(5), 0);
    }

    /** Exactly the short truck goes first, by rule the one of the lesser rank. */
    private static void exactIsForAtMostSoMany() {
        int[][] trucks = {{0, 0, 50, 1}, {0, 0, 1, 2}, {0, 0, 2, 3}, {0, 0, 3, 4}, {0, 0, 4, 5}, {0, 0, 5, 6}};
        for (int waiting = 2; waiting <= 6; waiting++) {
            DockBook book = oneDoor(0, 500);
            for (int i = 0; i < waiting; i++) {
                book.truck(trucks[i][0], trucks[i][1], trucks[i][2], trucks[i][3]);
            }
            for (int most = 0; most <= 5; most++) {
                book.assign(most);
                String what = waiting + " waiting, assign(" + most + ")";
                CHECK.same(what + " exact", book.exact(), waiting <= most);
                CHECK.same(what + " first", book.order(0, 0), waiting <= most ? 1 : 0);
            }
        }
    }

    private static void exactTakesTheLeastCost() {
        // By rule truck 0 would go to the door that opens first, which alone takes truck 1.
        int[][] doors = {{3, 10, 40}, {1, 11, 100}};
        int[][] trucks = {{0, 0, 20, 1}, {1, 0, 20, 2}};
        planned("exactly", Books.of(doors, trucks), 2, 21, "1@11 0@10");
        planned("by rule", Books.of(doors, trucks), 1, 5010, "0@10 -");
        // Three short ones are better than one long one that leaves them no room.
        DockBook book = oneDoor(0, 30, Books.row(0, 0, 30, 1), Books.row(0, 0, 10, 2), Books.row(0, 0, 10, 2),
                Books.row(0, 0, 10, 2));
        planned("as many as there is room for", book, 5, 5030, "- 0@0 0@10 0@20");
        planned("by rule", book, 3, 15000, "0@0 - - -");
    }

    private static void exactTiesByTheLowestDoor() {
        int[][] doors = {{1, 5, 100}, {1, 5, 100}, {1, 5, 100}, {1, 5, 100}};
        planned("one truck", Books.of(doors, Books.rows(Books.row(0, 0, 10, 1))), 5, 5, "0@5");
        // Truck 0 has the lower door though truck 1 has the lesser rank.
        planned("two trucks", Books.of(doors, Books.rows(Books.row(0, 0, 10, 9), Books.row(0, 0, 10, 1))), 5, 10,
                "0@5 1@5");
        // Two of five share a door: the first ones do if it costs the same.
        planned("five trucks", Books.of(doors, Books.rows(Books.row(0, 0, 10, 1), Books.row(0, 0, 10, 1),
                Books.row(0, 0, 10, 1), Books.row(0, 0, 10, 1), Books.row(0, 0, 10, 1))), 5, 35,
                "0@5 0@15 1@5 2@5 3@5");
        // Trucks that never meet are all at door 0.
        planned("one behind the other", Books.of(doors, Books.rows(Books.row(0, 25, 10, 1), Books.row(0, 5, 10, 1),
                Books.row(0, 15, 10, 1))), 5, 0, "0@25 0@5 0@15");
    }

    private static void exactTiesByNothingBehindAllDoors() {
        int[][] doors = {{2, 0, 10}, {2, 0, 10}, {2, 0, 10}, {1, 0, 10}};
        planned("the last door comes before nothing",
                Books.of(doors, Books.rows(Books.row(0, 0, 10, 9), Books.row(0, 0, 10, 1))), 5, 5000, "3@0 -");
        planned("three for one place", Books.of(doors, Books.rows(Books.row(0, 0, 10, 9), Books.row(0, 0, 10, 1),
                Books.row(0, 0, 10, 1))), 5, 10000, "3@0 - -");
    }

    private static void exactTiesByTheLesserStart() {
        planned("two alike", oneDoor(0, 100, Books.row(0, 0, 10, 9), Books.row(0, 0, 10, 1)), 5, 10, "0@0 0@10");
        planned("the first truck's start counts first",
                oneDoor(0, 100, Books.row(0, 0, 10, 1), Books.row(0, 0, 10, 1), Books.row(0, 0, 10, 1)), 5, 30,
                "0@0 0@10 0@20");
        // 0 then 1 cost 0 + 11, 1 then 0 cost 1 + 10: the parts differ, the sums do not.
        planned("alike in cost alone", oneDoor(5, 100, Books.row(0, 5, 10, 1), Books.row(0, 4, 10, 1)), 5, 11,
                "0@5 0@15");
        // Truck 0 starts at 0 in any case; 3, 1, 2 cost 0 + 1 + 10 and 2, 3, 1 cost 4 + 3 + 4, but 1 starts at 11 then.
        planned("the second truck's start counts then", oneDoor(0, 16, Books.row(0, 0, 5, 1), Books.row(0, 7, 3, 1),
                Books.row(0, 1, 4, 1), Books.row(0, 6, 2, 1)), 5, 11, "0@0 0@8 0@11 0@6");
        // 3, 1, 0 costs 2 + 4 + 5 as well, but truck 1 starts at 4 then.
        planned("truck 2 has nothing", oneDoor(3, 8, Books.row(0, 0, 3, 1), Books.row(0, 0, 1, 1),
                Books.row(0, 0, 3, 1), Books.row(0, 1, 1, 1)), 5, 5000 + 11, "0@5 0@3 - 0@4");
        // 2, 1 costs 0 + 3 as well, but truck 1 starts at 6 then; with truck 0 it would cost more.
        planned("truck 0 has nothing", oneDoor(3, 10, Books.row(0, 0, 2, 1), Books.row(0, 3, 4, 1),
                Books.row(0, 4, 2, 1)), 5, 5000 + 3, "- 0@3 0@7");
    }

    private static void ruleGoesByRank() {
        planned("rank 8 before rank 9, though it comes later",
                oneDoor(0, 100, Books.row(0, 0, 10, 9), Books.row(0, 30, 10, 8)), 0, 40, "0@40 0@30");
    }

    private static void ruleGoesByArrivalThen() {
        planned("the earlier by a minute",
                oneDoor(10, 100, Books.row(0, 5, 10, 4), Books.row(0, 4, 10, 4)), 0, 6 + 15, "0@20 0@10");
    }

    private static void ruleGoesByNumberThen() {
        planned("all alike",
                oneDoor(10, 100, Books.row(0, 4, 9, 4), Books.row(0, 4, 8, 4), Books.row(0, 4, 7, 4)), 0,
                6 + 15 + 23, "0@10 0@19 0@27");
    }

    private static void ruleComesBehindThoseSoFar() {
        // Truck 1 would fit before truck 0 but comes behind it.
        planned("a gap stays", oneDoor(0, 100, Books.row(0, 50, 10, 1), Books.row(0, 0, 10, 2)), 0, 60, "0@50 0@60");
    }

    private static void ruleTakesTheLeastStart() {
        int[][] doors = {{1, 11, 100}, {1, 10, 100}};
        int[][] trucks = {{0, 0, 1, 1}, {0, 0, 1, 2}, {0, 0, 1, 3}};
        planned("a minute earlier, then equal, then a minute earlier", Books.of(doors, trucks), 0, 10 + 11 + 11,
                "1@10 0@11 1@11");
        int[][] closing = {{1, 10, 14}, {1, 20, 100}};
        planned("the least start at which it ends in time",
                Books.of(closing, Books.rows(Books.row(0, 0, 5, 1))), 0, 20, "1@20");
    }

    private static void ruleTakesTheLowestOfEqualDoors() {
        int[][] doors = {{2, 0, 100}, {1, 0, 100}, {1, 0, 100}, {1, 0, 100}};
        planned("door 0 does not take it", Books.of(doors, Books.rows(Books.row(0, 0, 1, 1))), 0, 0, "1@0");
        int[][] early = {{1, 0, 100}, {1, 5, 100}};
        planned("both are open when it comes", Books.of(early, Books.rows(Books.row(0, 5, 1, 1))), 0, 0, "0@5");
    }

    private static void ruleGivesNothingIfNoneTakesIt() {
        DockBook book = oneDoor(0, 20, Books.row(0, 0, 21, 1), Books.row(1, 0, 1, 2), Books.row(0, 0, 20, 3),
                Books.row(0, 0, 1, 4));
        planned("those without a door take no room", book, 3, 15000, "- - 0@0 -");
    }
}
