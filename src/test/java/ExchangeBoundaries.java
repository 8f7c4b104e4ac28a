/** The boundary cases of offers, plans and their rings: promises 37 to 41, and term 6. */
final class ExchangeBoundaries extends Boundaries {
    static void all() {
        offers();
        plans();
        best();
    }

    private static void offerMany(int count) {
        for (int number = 0; number < count; number++) {
            is("offer", number, x.offer(number % 2, number % 2, 1 - number % 2));
        }
    }

    private static void offers() {
        test("Promise 37", "`museum`: 0 to 4 | `gives`: 0 to 5, a kind | `wants`: 0 to 5, another kind | "
            + "Throws `IllegalArgumentException` if a number is out of range", () -> {
                range("offer, museum", 0, 4, museum -> x.offer(museum, 0, 5));
                range("offer, gives", 0, 5, gives -> x.offer(0, gives, 1));
                range("offer, wants", 0, 5, wants -> x.offer(4, 3, wants));
                noArgument("offer: both kinds are out of range", () -> x.offer(0, 6, 6));
                is("clearOffers", 6, x.clearOffers());
            });
        test("Promise 37", "or both kinds are the same", () -> {
            for (int kind = 0; kind < 6; kind++) {
                int both = kind;
                noArgument("offer", () -> x.offer(0, both, both));
            }
            offerMany(8);
            noArgument("offer: both kinds are the same, and 8", () -> x.offer(0, 5, 5));
            noArgument("offer: out of range, and 8", () -> x.offer(5, 0, 1));
        });
        test("Promise 37", "Throws `IllegalStateException` if 8 are told", () -> {
            offerMany(8);
            noState("offer", () -> x.offer(0, 0, 1));
            x.undo();
            is("offer: 7 are told again", 7, x.offer(4, 5, 0));
            noState("offer", () -> x.offer(0, 0, 1));
            is("clearOffers", 8, x.clearOffers());
            is("offer: none is told any more", 0, x.offer(0, 0, 1));
        });
        test("Promise 37", "Tells an offer. | Returns its number.", () -> {
            is("offer", 0, x.offer(4, 5, 0));
            is("offer: the same again", 1, x.offer(4, 5, 0));
            is("offer", 2, x.offer(0, 0, 5));
        });
        test("Terms 6", "At most 8 offers are told, numbered from 0, each of a museum (0 to 4): it gives a double of a kind "
            + "and wants one of another kind (0 to 5).", () -> {
                for (int number = 0; number < 8; number++) {
                    is("offer", number, x.offer((number + number / 5) % 5, number % 6, (number + 1) % 6));
                }
                noState("offer", () -> x.offer(0, 0, 1));
                // 0 to 5 give 0 to 5 and want 1 to 0; 6 gives 0, and 7 gives 1.
                planIs(1, 1, 2, 3, 4, 5, 0, -1, -1);
            });
        test("Promise 38", "Drops all offers. | Returns how many there were.", () -> {
            is("clearOffers without offers", 0, x.clearOffers());
            offerMany(8);
            is("clearOffers", 8, x.clearOffers());
            is("clearOffers again", 0, x.clearOffers());
            is("plan", 0, x.plan());
            is("rings", 0, x.rings());
            noIndex("getsFrom", () -> x.getsFrom(0));
        });
    }

    private static void plans() {
        test("Promise 39", "Counts the offers in the best plan. | Returns how many there are.", () -> {
            is("plan without offers", 0, x.plan());
            x.offer(0, 0, 1);
            is("plan of one offer", 0, x.plan());
            x.offer(1, 1, 0);
            is("plan of two offers", 2, x.plan());
            x.clearOffers();
            for (int number = 0; number < 8; number++) {
                x.offer(3, number % 2, 1 - number % 2);
            }
            planIs(0, -1, -1, -1, -1, -1, -1, -1, -1);
            x.clearOffers();
            offerMany(8);
            is("plan of 8 offers", 8, x.plan());
        });
        test("Promise 40", "`offer`: number of an offer | Throws `IndexOutOfBoundsException` if there is no such "
            + "offer", () -> {
                numbers("getsFrom without offers", 0, offer -> x.getsFrom(offer));
                x.offer(0, 0, 1);
                numbers("getsFrom of one offer", 1, offer -> x.getsFrom(offer));
                x.clearOffers();
                offerMany(8);
                numbers("getsFrom of 8 offers", 8, offer -> x.getsFrom(offer));
                x.undo();
                numbers("getsFrom of 7 offers", 7, offer -> x.getsFrom(offer));
            });
        test("Promise 40", "Returns the offer from which an offer gets a stone in the best plan. | "
            + "Returns the number of the other one; NONE if it is not in the plan.", () -> {
                x.offer(2, 3, 4);
                is("getsFrom", -1, x.getsFrom(0));
                x.offer(3, 4, 3);
                is("getsFrom", 1, x.getsFrom(0));
                is("getsFrom", 0, x.getsFrom(1));
                x.offer(4, 4, 3);
                is("getsFrom", -1, x.getsFrom(2));
            });
        test("Promise 41", "Counts the rings of the best plan. | Returns how many there are: rows in which each offer gets "
            + "from the next one, and the last one from the first one.", () -> {
                is("rings without offers", 0, x.rings());
                x.offer(0, 0, 1);
                is("rings of one offer", 0, x.rings());
                x.offer(1, 1, 0);
                is("rings of two offers", 1, x.rings());
                x.clearOffers();
                for (int number = 0; number < 6; number++) {
                    x.offer(number % 2, number, (number + 1) % 6);
                }
                planIs(1, 1, 2, 3, 4, 5, 0);
                x.clearOffers();
                offerMany(8);
                planIs(4, 1, 0, 3, 2, 5, 4, 7, 6);
                x.clearOffers();
                x.offer(0, 0, 1);
                x.offer(0, 3, 4);
                x.offer(1, 1, 2);
                x.offer(1, 4, 5);
                x.offer(2, 2, 0);
                x.offer(2, 5, 3);
                planIs(2, 2, 3, 4, 5, 0, 1);
            });
    }

    private static void best() {
        test("Terms 6", "one of another museum that gives what it wants", () -> {
            x.offer(0, 0, 1);
            x.offer(0, 1, 0);
            planIs(0, -1, -1);
            x.offer(4, 1, 2);
            planIs(0, -1, -1, -1);
            x.offer(4, 2, 0);
            planIs(0, -1, -1, -1, -1);
            x.offer(4, 1, 0);
            planIs(1, 4, -1, -1, -1, 0);
        });
        test("Terms 6", "each of these offers gives to just one, and gets from just one", () -> {
            x.offer(0, 0, 1);
            x.offer(1, 1, 0);
            x.offer(2, 1, 0);
            x.offer(3, 1, 0);
            planIs(1, 1, 0, -1, -1);
            x.offer(4, 0, 1);
            planIs(2, 1, 0, 4, -1, 2);
        });
        test("Terms 6", "each of these offers gives to just one", () -> {
            x.offer(0, 0, 1);
            x.offer(1, 1, 2);
            // 0 could get from 1, but none gets from 0, so that 0 would only take.
            planIs(0, -1, -1);
        });
        test("Terms 6", "The best plan is the one with the most offers in it", () -> {
            x.offer(0, 0, 1);
            x.offer(1, 1, 0);
            planIs(1, 1, 0);
            x.offer(2, 1, 2);
            planIs(1, 1, 0, -1);
            x.offer(3, 2, 0);
            planIs(1, 2, -1, 3, 0);
        });
        test("Terms 6", "of several the one in which the offer 0 gets from the least", () -> {
            x.offer(0, 0, 1);
            x.offer(1, 2, 3);
            x.offer(2, 1, 0);
            x.offer(3, 1, 0);
            planIs(1, 2, -1, 0, -1);
            x.offer(4, 0, 1);
            planIs(2, 2, -1, 0, 4, 3);
        });
        test("Terms 6", "(an offer that is not in it counts as getting from 8)", () -> {
            x.offer(0, 0, 1);
            x.offer(0, 0, 1);
            x.offer(1, 2, 3);
            x.offer(1, 2, 3);
            x.offer(1, 2, 3);
            x.offer(1, 2, 3);
            x.offer(1, 2, 3);
            x.offer(1, 1, 0);
            planIs(1, 7, -1, -1, -1, -1, -1, -1, 0);
        });
        test("Terms 6", "then the offer 1, and so on", () -> {
            x.offer(0, 4, 5);
            x.offer(0, 0, 1);
            x.offer(0, 0, 1);
            x.offer(1, 1, 0);
            x.offer(2, 1, 0);
            planIs(2, -1, 3, 4, 1, 2);
            x.clearOffers();
            x.offer(0, 0, 1);
            x.offer(1, 1, 0);
            x.offer(2, 0, 1);
            x.offer(3, 1, 0);
            x.offer(4, 1, 0);
            planIs(2, 1, 0, 3, 2, -1);
        });
    }
}
