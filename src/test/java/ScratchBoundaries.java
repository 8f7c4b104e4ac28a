/** The boundary cases of scratches, rings and orders: promises 8 to 18, and term 2. */
final class ScratchBoundaries extends Boundaries {
    static void all() {
        telling();
        rings();
        counts();
        pairs();
        nextTests();
        firstOrder();
    }

    /** Each stone scratches the next one, from the first to the last of these. */
    private static void chain(int... stones) {
        for (int i = 0; i + 1 < stones.length; i++) {
            x.scratch(stones[i], stones[i + 1]);
        }
    }

    private static void telling() {
        test("Promise 8", "`one`: number of a stone | `other`: number of another stone | "
            + "Throws `IndexOutOfBoundsException` if there is no such stone", () -> {
                numbers("scratch without stones", 0, one -> x.scratch(one, one));
                comeMany(1);
                noIndex("scratch: no other", () -> x.scratch(0, 1));
                noIndex("scratch: no one", () -> x.scratch(1, 0));
                come("b", 0, 1, 1, 0);
                numbers("scratch, one", 2, one -> x.scratch(one, one == 0 ? 1 : 0));
                numbers("scratch, other", 2, other -> x.scratch(other == 0 ? 1 : 0, other));
                noIndex("scratch: the same, but not there", () -> x.scratch(2, 2));
                noIndex("scratch: the same, but not there", () -> x.scratch(-1, -1));
            });
        test("Promise 8", "Throws `IllegalArgumentException` if both are the same", () -> {
            comeMany(2);
            noArgument("scratch", () -> x.scratch(0, 0));
            noArgument("scratch", () -> x.scratch(1, 1));
            scratchMany(40);
            noArgument("scratch: the same, and 40", () -> x.scratch(1, 1));
            noIndex("scratch: not there, and 40", () -> x.scratch(0, 2));
        });
        test("Promise 8", "Throws `IllegalStateException` if 40 are told", () -> {
            comeMany(2);
            scratchMany(40);
            noState("scratch", () -> x.scratch(0, 1));
            is("unscratch", 39, x.unscratch(17));
            is("scratch: the fortieth again", 39, x.scratch(0, 1));
            noState("scratch", () -> x.scratch(1, 0));
            is("orders", 1, x.orders());
        });
        test("Promise 8", "Tells that a stone scratches another one. | Returns the number of what was told.", () -> {
            comeMany(3);
            is("scratch", 0, x.scratch(2, 0));
            is("scratch", 1, x.scratch(0, 1));
            is("scratch", 2, x.scratch(2, 1));
            is("orders", 1, x.orders());
        });
        test("Terms 2", "It can be told that a stone scratches another one; so it is harder.", () -> {
            comeMany(2);
            x.scratch(1, 0);
            is("harder", 1, x.harder(1, 0));
            is("harder", 0, x.harder(0, 1));
        });
        test("Terms 2", "At most 40 are told, numbered from 0; the same can be told again.", () -> {
            comeMany(2);
            scratchMany(40);
            is("orders", 1, x.orders());
            for (int left = 39; left >= 1; left--) {
                is("unscratch", left, x.unscratch(left));
                is("the same is told still", 1, x.orders());
            }
            is("unscratch", 0, x.unscratch(0));
            is("orders", 2, x.orders());
        });
        test("Promise 9", "`number`: number of what was told | Throws `IndexOutOfBoundsException` if there is no such "
            + "number", () -> {
                comeMany(2);
                numbers("unscratch of none", 0, number -> x.unscratch(number));
                scratchMany(40);
                noIndex("unscratch", () -> x.unscratch(40));
                noIndex("unscratch", () -> x.unscratch(-1));
                is("unscratch", 39, x.unscratch(39));
                noIndex("unscratch: it was the last one", () -> x.unscratch(39));
                is("unscratch", 38, x.unscratch(0));
                noIndex("unscratch: that number went over to none", () -> x.unscratch(38));
                noIndex("unscratch", () -> x.unscratch(MOST));
                noIndex("unscratch", () -> x.unscratch(LEAST));
            });
        test("Promise 9", "Takes back that a stone scratches another one. | Returns how many are left.", () -> {
            comeMany(2);
            x.scratch(0, 1);
            is("unscratch of the only one", 0, x.unscratch(0));
            scratchMany(40);
            is("unscratch of 40", 39, x.unscratch(0));
        });
        test("Terms 2", "One can be taken back; those behind it get a number that is less by 1.", () -> {
            comeMany(4);
            x.scratch(0, 1);
            x.scratch(1, 2);
            x.scratch(2, 3);
            is("unscratch of the middle one", 2, x.unscratch(1));
            is("orders of 0 1 and 2 3", 6, x.orders());
            is("unscratch of that behind", 1, x.unscratch(1));
            is("0 1 is left", 12, x.harder(0, 1));
            x.scratch(1, 2);
            is("unscratch of the first one", 1, x.unscratch(0));
            is("1 2 is left", 24 / 2, x.harder(1, 2));
            is("1 2 has the number 0", 0, x.unscratch(0));
            is("orders", 24, x.orders());
        });
        test("Terms 2", "those behind it get a number that is less by 1", () -> {
            comeMany(3);
            for (int i = 0; i < 38; i++) {
                x.scratch(0, 1);
            }
            x.scratch(1, 2);
            x.scratch(2, 0);
            is("ring", 3, x.ring());
            is("unscratch", 39, x.unscratch(0));
            is("the last one of 40 has the number 38", 38, x.unscratch(38));
            is("orders", 1, x.orders());
            is("that ahead of it has the number 37", 37, x.unscratch(37));
            is("orders", 3, x.orders());
        });
    }

    private static void rings() {
        test("Promise 10", "Counts the stones of the ring. | Returns how many it has; 0 if there is no ring.", () -> {
            is("ring without stones", 0, x.ring());
            comeMany(10);
            is("ring without scratches", 0, x.ring());
            chain(9, 8, 7, 6, 5, 4, 3, 2, 1, 0);
            is("ring of a row that is not closed", 0, x.ring());
            x.scratch(0, 9);
            is("ring of all", 10, x.ring());
            x.scratch(0, 1);
            is("ring of 2", 2, x.ring());
        });
        test("Promise 11", "Returns a stone of the ring. | `place`: 0 for the first one, and so on | Returns its number. | "
            + "Throws `IndexOutOfBoundsException` if there is no such place, or no ring", () -> {
                numbers("ringAt without stones", 0, place -> x.ringAt(place));
                comeMany(10);
                chain(0, 1, 2, 3, 4, 5, 6, 7, 8, 9);
                numbers("ringAt without a ring", 0, place -> x.ringAt(place));
                x.scratch(9, 0);
                ringIs(0, 1, 2, 3, 4, 5, 6, 7, 8, 9);
                numbers("ringAt of 10", 10, place -> x.ringAt(place));
                x.scratch(9, 8);
                ringIs(8, 9);
                numbers("ringAt of 2", 2, place -> x.ringAt(place));
                x.unscratch(10);
                x.unscratch(9);
                numbers("ringAt without a ring again", 0, place -> x.ringAt(place));
            });
        test("Terms 2", "A ring is a row of unlike stones, at least 2", () -> {
            comeMany(4);
            chain(0, 1, 2, 3);
            chain(0, 2);
            chain(0, 3);
            chain(0, 1);
            ringIs();
            x.scratch(3, 2);
            ringIs(2, 3);
        });
        test("Terms 2", "each of which scratches the next one, and the last one the first one", () -> {
            comeMany(4);
            chain(0, 3, 1, 2, 0);
            ringIs(0, 3, 1, 2);
        });
        test("Terms 2", "it is told from its least stone on", () -> {
            comeMany(10);
            chain(9, 3, 7, 9);
            ringIs(3, 7, 9);
            x.scratch(7, 3);
            ringIs(3, 7);
        });
        test("Terms 2", "of several the shortest", () -> {
            comeMany(10);
            chain(0, 1, 2, 3, 0);
            chain(7, 8, 9, 7);
            ringIs(7, 8, 9);
            chain(3, 2);
            ringIs(2, 3);
        });
        test("Terms 2", "of several of these the one with the lesser stone where they are first unlike", () -> {
            comeMany(10);
            chain(7, 8, 9, 7);
            chain(1, 5, 6, 1);
            ringIs(1, 5, 6);
            chain(1, 4, 9, 1);
            ringIs(1, 4, 9);
            chain(4, 8, 1);
            ringIs(1, 4, 8);
            chain(0, 9, 7, 0);
            ringIs(0, 9, 7);
        });
        test("Terms 2", "If there is a ring, no order fits.", () -> {
            comeMany(10);
            is("orders", 3628800, x.orders());
            chain(8, 9, 8);
            is("orders", 0, x.orders());
            x.unscratch(0);
            is("orders", 1814400, x.orders());
        });
    }

    private static void counts() {
        test("Promise 12", "Counts the orders that fit. | Returns how many there are; 1 without stones.", () -> {
            is("orders without stones", 1, x.orders());
            int due = 1;
            for (int count = 1; count <= 10; count++) {
                come("" + (char) ('a' + count), 0, 1, 1, 0);
                due *= count;
                is("orders of " + count, due, x.orders());
            }
            chain(9, 8, 7, 6, 5, 4, 3, 2, 1, 0);
            is("orders: just one", 1, x.orders());
            x.scratch(0, 9);
            is("orders: none", 0, x.orders());
        });
        test("Terms 2", "An order has all stones, the hardest one first, and fits if each stone stands ahead of all that it "
            + "scratches.", () -> {
                comeMany(3);
                chain(2, 0);
                chain(2, 1);
                is("orders", 2, x.orders());
                is("orderAt", 2, x.orderAt(0));
                is("withRank", 2, x.withRank(2, 0));
                come("d", 0, 1, 1, 0);
                is("a stone that nothing is told of stands anywhere", 8, x.orders());
            });
        test("Promise 13", "`stone`: number of a stone | Throws `IndexOutOfBoundsException` if there is no such stone", () -> {
            numbers("rank without stones", 0, stone -> x.rank(stone, true));
            comeMany(10);
            numbers("rank", 10, stone -> x.rank(stone, false));
            chain(0, 1, 0);
            numbers("rank, also if no order fits", 10, stone -> x.rank(stone, false));
        });
        test("Promise 13", "Returns the least or the greatest rank of a stone in the orders that fit. | "
            + "`isGreatest`: whether the greatest one is asked", () -> {
                comeMany(10);
                is("the least rank", 0, x.rank(9, false));
                is("the greatest rank", 9, x.rank(9, true));
                chain(0, 1, 2, 3, 4, 5, 6, 7, 8);
                for (int stone = 0; stone < 9; stone++) {
                    is("the least rank of " + stone, stone, x.rank(stone, false));
                    is("the greatest rank of " + stone, stone + 1, x.rank(stone, true));
                }
                is("the least rank", 0, x.rank(9, false));
                is("the greatest rank", 9, x.rank(9, true));
                x.scratch(8, 9);
                is("the least rank of the last one", 9, x.rank(9, false));
                is("the greatest rank of the first one", 0, x.rank(0, true));
            });
        test("Promise 13", "Returns the rank; NONE if no order fits.", () -> {
            comeMany(3);
            chain(0, 1, 0);
            for (int stone = 0; stone < 3; stone++) {
                is("rank", -1, x.rank(stone, false));
                is("rank", -1, x.rank(stone, true));
            }
        });
        test("Terms 2", "The rank of a stone in an order is its place, from 0.", () -> {
            comeMany(1);
            is("the least rank of the only stone", 0, x.rank(0, false));
            is("the greatest rank of the only stone", 0, x.rank(0, true));
            is("withRank", 1, x.withRank(0, 0));
            is("withRank", 0, x.withRank(0, 1));
        });
        test("Promise 14", "`stone`: number of a stone | Throws `IndexOutOfBoundsException` if there is no such stone", () -> {
            numbers("withRank without stones", 0, stone -> x.withRank(stone, 0));
            comeMany(10);
            numbers("withRank", 10, stone -> x.withRank(stone, 9));
            noIndex("withRank: no stone ahead of a rank out of range", () -> x.withRank(10, 10));
        });
        test("Promise 14", "`rank`: 0 to 9 | Throws `IllegalArgumentException` if rank is out of range", () -> {
            comeMany(1);
            range("withRank", 0, 9, rank -> x.withRank(0, rank));
            is("withRank: a rank that no stone has", 0, x.withRank(0, 1));
            is("withRank: a rank that no stone has", 0, x.withRank(0, 9));
        });
        test("Promise 14", "Counts the orders that fit in which a stone has a rank. | Returns how many there are.", () -> {
            comeMany(10);
            is("withRank", 362880, x.withRank(0, 0));
            is("withRank", 362880, x.withRank(9, 9));
            chain(9, 0);
            is("9 is not the last one", 0, x.withRank(9, 9));
            is("9 is the first one", 362880, x.withRank(9, 0));
            is("9 is the last but one", 40320, x.withRank(9, 8));
            x.scratch(0, 9);
            is("no order fits", 0, x.withRank(9, 0));
        });
    }

    private static void pairs() {
        test("Promise 15", "`one`: number of a stone | `other`: number of another stone | "
            + "Throws `IndexOutOfBoundsException` if there is no such stone", () -> {
                numbers("harder without stones", 0, one -> x.harder(one, one));
                comeMany(10);
                numbers("harder, one", 10, one -> x.harder(one, one == 0 ? 9 : 0));
                numbers("harder, other", 10, other -> x.harder(other == 0 ? 9 : 0, other));
                noIndex("harder: the same, but not there", () -> x.harder(10, 10));
            });
        test("Promise 15", "Throws `IllegalArgumentException` if both are the same", () -> {
            comeMany(10);
            noArgument("harder", () -> x.harder(0, 0));
            noArgument("harder", () -> x.harder(9, 9));
            chain(0, 1, 0);
            noArgument("harder, also if no order fits", () -> x.harder(9, 9));
        });
        test("Promise 15", "Counts the orders that fit in which a stone is harder than another one. | "
            + "Returns how many there are.", () -> {
                comeMany(10);
                is("harder", 1814400, x.harder(0, 9));
                is("harder", 1814400, x.harder(9, 0));
                chain(9, 0);
                is("harder", 1814400, x.harder(9, 0));
                is("harder", 0, x.harder(0, 9));
                is("harder", 1209600, x.harder(9, 5));
                chain(0, 9);
                is("harder: no order fits", 0, x.harder(9, 0));
                is("harder: no order fits", 0, x.harder(1, 2));
            });
        test("Promise 16", "`one`: number of a stone | `other`: number of another stone | "
            + "Throws `IndexOutOfBoundsException` if there is no such stone", () -> {
                numbers("shareOf without stones", 0, one -> x.shareOf(one, one, true));
                comeMany(10);
                numbers("shareOf, one", 10, one -> x.shareOf(one, one == 0 ? 9 : 0, true));
                numbers("shareOf, other", 10, other -> x.shareOf(other == 0 ? 9 : 0, other, false));
                noIndex("shareOf: the same, but not there", () -> x.shareOf(10, 10, true));
            });
        test("Promise 16", "Throws `IllegalArgumentException` if both are the same", () -> {
            comeMany(10);
            noArgument("shareOf", () -> x.shareOf(0, 0, true));
            noArgument("shareOf", () -> x.shareOf(9, 9, false));
            chain(0, 1, 0);
            noArgument("shareOf, also if no order fits", () -> x.shareOf(9, 9, true));
        });
        test("Promise 16", "in lowest terms | `isUnder`: whether the denominator is asked | "
            + "Returns the numerator or the denominator", () -> {
                comeMany(10);
                shareIs(0, 9, 1, 2);
                chain(9, 0);
                shareIs(9, 0, 1, 1);
                shareIs(0, 9, 0, 1);
                shareIs(9, 5, 2, 3);
                shareIs(5, 9, 1, 3);
                chain(9, 1);
                shareIs(9, 5, 3, 4);
                chain(2, 5);
                shareIs(9, 5, 9, 10);
                fresh();
                comeMany(3);
                chain(0, 1);
                shareIs(0, 2, 2, 3);
                shareIs(2, 0, 1, 3);
            });
        test("Promise 16", "0 and 1 if no order fits", () -> {
            comeMany(3);
            chain(0, 1, 0);
            shareIs(0, 1, 0, 1);
            shareIs(2, 0, 0, 1);
        });
    }

    private static void shareIs(int one, int other, int over, int under) {
        is("shareOf over", over, x.shareOf(one, other, false));
        is("shareOf under", under, x.shareOf(one, other, true));
    }

    private static void testIs(int test, int worth) {
        is("nextTest", test, x.nextTest(false));
        is("nextTest, its worth", worth, x.nextTest(true));
    }

    private static void nextTests() {
        test("Promise 17", "NONE if there are less than 2 stones, or no order fits", () -> {
            testIs(-1, -1);
            comeMany(1);
            testIs(-1, -1);
            come("b", 0, 1, 1, 0);
            testIs(1, 1);
            chain(0, 1, 0);
            testIs(-1, -1);
        });
        test("Promise 17", "Returns the next test. | `isWorth`: whether its worth is asked | "
            + "Returns the worth; otherwise 10 times the first stone plus the second one", () -> {
                comeMany(10);
                testIs(1, 1814400);
                chain(0, 1, 2, 3, 4, 5, 6, 7, 8);
                chain(7, 9);
                testIs(89, 1);
            });
        test("Terms 2", "A test of two stones a and b, a less than b, tells which one is harder; its worth is the greater one "
            + "of both numbers of orders that are left.", () -> {
                comeMany(2);
                x.scratch(1, 0);
                testIs(1, 1);
                come("c", 0, 1, 1, 0);
                // Of 3 orders 2 is ahead of 0 in 2, and behind 1 in 2.
                testIs(2, 2);
            });
        test("Terms 2", "The next test is the one with the least worth, of several that with the least a, then the least "
            + "b.", () -> {
                comeMany(4);
                testIs(1, 12);
                chain(0, 1);
                testIs(23, 6);
                chain(2, 3);
                testIs(2, 3);
                x.unscratch(0);
                testIs(1, 6);
                chain(3, 1);
                // 2 3 1 is told: 0 stands anywhere, ahead of 3 in 2 of 4 orders.
                testIs(3, 2);
            });
    }

    private static void firstOrder() {
        test("Promise 18", "`rank`: its rank | Throws `IndexOutOfBoundsException` if there is no such rank, or no order "
            + "fits", () -> {
                numbers("orderAt without stones", 0, rank -> x.orderAt(rank));
                comeMany(10);
                numbers("orderAt", 10, rank -> x.orderAt(rank));
                chain(0, 1, 0);
                numbers("orderAt if no order fits", 0, rank -> x.orderAt(rank));
            });
        test("Promise 18", "the least stone that can be the hardest, then the least one that can be next, and so on | "
            + "Returns the number of the stone.", () -> {
                comeMany(10);
                orderIs(0, 1, 2, 3, 4, 5, 6, 7, 8, 9);
                chain(9, 0);
                orderIs(1, 2, 3, 4, 5, 6, 7, 8, 9, 0);
                chain(4, 1);
                orderIs(2, 3, 4, 1, 5, 6, 7, 8, 9, 0);
                chain(9, 2);
                chain(9, 3);
                orderIs(4, 1, 5, 6, 7, 8, 9, 0, 2, 3);
                chain(8, 4);
                orderIs(5, 6, 7, 8, 4, 1, 9, 0, 2, 3);
            });
    }

    private static void orderIs(int... due) {
        for (int rank = 0; rank < due.length; rank++) {
            is("orderAt " + rank, due[rank], x.orderAt(rank));
        }
    }
}
