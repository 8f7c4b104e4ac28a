/** The boundary cases of hands, stays and fees: promises 24 to 32, and term 4. */
final class HandBoundaries extends Boundaries {
    static void all() {
        telling();
        takingBack();
        asking();
        stays();
        days();
        fees();
        inHands();
        dates();
    }

    private static void tellMany(int count) {
        for (int number = 0; number < count; number++) {
            is("tell", number, x.tell(0, 20240101 + number % 28, number % 7));
        }
    }

    private static void telling() {
        test("Promise 24", "`stone`: number of a stone | Throws `IndexOutOfBoundsException` if there is no such stone", () -> {
            numbers("tell without stones", 0, stone -> x.tell(stone, 20240101, 0));
            comeMany(10);
            numbers("tell", 10, stone -> x.tell(stone, 20240101, 0));
            noIndex("tell: no stone ahead of no date and no hand", () -> x.tell(10, 0, 7));
        });
        test("Promise 24", "`date`: a date | `hand`: 0 to 6 | Throws `IllegalArgumentException` if date or hand is out of "
            + "range", () -> {
                comeMany(1);
                dates("tell", date -> x.tell(0, date, 0));
                range("tell, hand", 0, 6, hand -> x.tell(0, 20240101, hand));
                is("time: what is refused is not told", GOOD_DATES.length + 2, x.time());
            });
        test("Promise 24", "Throws `IllegalStateException` if 60 are told", () -> {
            comeMany(2);
            tellMany(60);
            noArgument("tell: no hand, and 60", () -> x.tell(0, 20240101, 7));
            noArgument("tell: no date, and 60", () -> x.tell(0, 20240230, 0));
            noIndex("tell: no stone, and 60", () -> x.tell(2, 20240101, 0));
            noState("tell", () -> x.tell(0, 20240101, 0));
            noState("tell of a stone that nothing is told of", () -> x.tell(1, 20240101, 0));
            is("time", 60, x.time());
            x.undo();
            is("tell: 59 are told again", 59, x.tell(1, 20240101, 0));
        });
        test("Promise 24", "Tells that a stone is in a hand from a day on. | Returns the number of what was told.", () -> {
            comeMany(2);
            is("tell", 0, x.tell(1, 21991231, 6));
            is("tell: the same again has a number of its own", 1, x.tell(1, 21991231, 6));
            is("tell", 2, x.tell(0, 19000101, 0));
            x.takeBack(2);
            is("tell: what was taken back keeps its number", 3, x.tell(0, 19000101, 0));
        });
        test("Terms 4", "At most 60 are told, numbered from 0 as they are told", () -> {
            comeMany(1);
            tellMany(60);
            for (int number = 0; number < 60; number++) {
                is("takeBack", 61 + number, x.takeBack(number));
            }
            // They are told still, and numbered: what was taken back does not make room.
            noState("tell", () -> x.tell(0, 20240101, 0));
            is("stays", 1, x.stays(0, 120));
        });
    }

    private static void takingBack() {
        test("Promise 25", "`number`: number of what was told | Throws `IndexOutOfBoundsException` if there is no such "
            + "number", () -> {
                comeMany(1);
                numbers("takeBack of none", 0, number -> x.takeBack(number));
                tellMany(60);
                numbers("takeBack of 60", 60, number -> x.takeBack(number));
                x.undo();
                x.undo();
                x.undo();
                noIndex("takeBack of 59", () -> x.takeBack(59));
            });
        test("Promise 25", "Throws `IllegalStateException` if it was taken back", () -> {
            comeMany(1);
            tellMany(2);
            is("takeBack", 3, x.takeBack(1));
            noState("takeBack", () -> x.takeBack(1));
            is("takeBack of another one", 4, x.takeBack(0));
            noState("takeBack", () -> x.takeBack(0));
            noState("takeBack", () -> x.takeBack(1));
            is("time", 4, x.time());
            x.undo();
            is("takeBack: it was not any more", 4, x.takeBack(0));
        });
        test("Promise 25", "Takes back what was told of a hand. | Returns the time then.", () -> {
            comeMany(1);
            tellMany(60);
            is("takeBack", 61, x.takeBack(0));
            is("takeBack", 62, x.takeBack(59));
        });
        test("Promise 26", "Returns the time.", () -> {
            is("time of a new one", 0, x.time());
            comeMany(1);
            is("time: a stone that comes is not told", 0, x.time());
            tellMany(60);
            noState("tell", () -> x.tell(0, 20240101, 0));
            is("time", 60, x.time());
        });
        test("Terms 4", "The time is how often something was told or taken back, 0 at first.", () -> {
            is("time", 0, x.time());
            comeMany(2);
            x.scratch(0, 1);
            x.unscratch(0);
            x.offer(0, 0, 1);
            x.show(0, 20240101, 1, 1);
            is("time: only what is told of hands", 0, x.time());
            is("tell", 0, x.tell(0, 20240101, 6));
            is("time: also if the hand is the same", 1, x.time());
            is("takeBack", 2, x.takeBack(0));
            is("time", 2, x.time());
        });
        test("Terms 4", "What was told can be taken back, once; then it does not count any more.", () -> {
            comeMany(1);
            x.tell(0, 20240101, 1);
            x.tell(0, 20240201, 2);
            x.takeBack(0);
            is("handOn: ahead of that what it was", 6, x.handOn(0, 20240131, 3));
            is("handOn: behind that what is told", 2, x.handOn(0, 20240201, 3));
            x.takeBack(1);
            is("handOn", 6, x.handOn(0, 20240201, 4));
            is("stays", 1, x.stays(0, 4));
        });
    }

    private static void asking() {
        test("Promise 27", "`stone`: number of a stone | Throws `IndexOutOfBoundsException` if there is no such stone", () -> {
            numbers("handOn without stones", 0, stone -> x.handOn(stone, 20240101, 0));
            comeMany(10);
            numbers("handOn", 10, stone -> x.handOn(stone, 20240101, 0));
            noIndex("handOn: no stone ahead of no date and no time", () -> x.handOn(10, 0, 1));
        });
        test("Promise 27", "`date`: a date | `time`: 0 to the time, as of which is asked | "
            + "Throws `IllegalArgumentException` if date or time is out of range", () -> {
                comeMany(1);
                range("handOn, time", 0, 0, time -> x.handOn(0, 20240101, time));
                tellMany(2);
                x.takeBack(0);
                range("handOn, time", 0, 3, time -> x.handOn(0, 20240101, time));
                x.undo();
                range("handOn, time", 0, 2, time -> x.handOn(0, 20240101, time));
                dates("handOn", date -> x.handOn(0, date, 2));
            });
        test("Promise 27", "Returns the hand in which a stone is on a day, as it was known at a time. | "
            + "Returns the hand.", () -> {
                comeMany(2);
                x.tell(0, 19000101, 1);
                x.tell(0, 21991231, 2);
                x.takeBack(0);
                int[][] due = {{6, 6, 6}, {1, 1, 1}, {1, 1, 2}, {6, 6, 2}};
                for (int time = 0; time < 4; time++) {
                    is("handOn the first day", due[time][0], x.handOn(0, 19000101, time));
                    is("handOn the last day but one", due[time][1], x.handOn(0, 21991230, time));
                    is("handOn the last day", due[time][2], x.handOn(0, 21991231, time));
                    is("handOn of the other stone", 6, x.handOn(1, 21991231, time));
                }
            });
        test("Terms 4", "Hands are numbered from 0 to 6; 0 is the museum.", () -> {
            comeMany(1);
            for (int hand = 0; hand < 7; hand++) {
                x.tell(0, 20240101, hand);
                is("handOn", hand, x.handOn(0, 20240101, hand + 1));
                is("away", hand == 0 ? 0 : 1, x.away(0, 20240101, 20240101));
            }
        });
        test("Terms 4", "It is told that a stone is in a hand from a day on (until the next day from which on another one, or "
            + "the same, is told).", () -> {
                comeMany(1);
                x.tell(0, 20240229, 3);
                x.tell(0, 20240301, 4);
                x.tell(0, 20240302, 4);
                x.tell(0, 20240101, 5);
                is("handOn", 6, x.handOn(0, 20231231, 4));
                is("handOn", 5, x.handOn(0, 20240101, 4));
                is("handOn", 5, x.handOn(0, 20240228, 4));
                is("handOn", 3, x.handOn(0, 20240229, 4));
                is("handOn", 4, x.handOn(0, 20240301, 4));
                is("handOn", 4, x.handOn(0, 21991231, 4));
                x.takeBack(1);
                is("handOn: until that day", 3, x.handOn(0, 20240301, 5));
                is("handOn: the same is told again from there", 4, x.handOn(0, 20240302, 5));
            });
        test("Terms 4", "Ahead of all it is in the hand 6.", () -> {
            comeMany(1);
            is("handOn", 6, x.handOn(0, 19000101, 0));
            is("handOn", 6, x.handOn(0, 21991231, 0));
            x.tell(0, 19000102, 0);
            is("handOn", 6, x.handOn(0, 19000101, 1));
            is("stayAt", 6, x.stayAt(0, 0, 0));
            x.tell(0, 19000101, 0);
            is("handOn", 0, x.handOn(0, 19000101, 2));
            is("stayAt: still, ahead of the first date", 6, x.stayAt(0, 0, 0));
        });
        test("Terms 4", "of two that are told for one stone and one day the later one counts", () -> {
            comeMany(2);
            x.tell(0, 20240101, 5);
            x.tell(0, 20240101, 1);
            x.tell(1, 20240101, 2);
            is("handOn", 1, x.handOn(0, 20240101, 3));
            is("handOn", 2, x.handOn(1, 20240101, 3));
            is("handOn: as it was known ahead of that", 5, x.handOn(0, 20240101, 1));
            x.tell(0, 20240101, 6);
            is("stays: the hand is 6 all along", 1, x.stays(0, 4));
            x.takeBack(3);
            is("handOn: the one that is left", 1, x.handOn(0, 20240101, 5));
            x.takeBack(0);
            is("handOn: the earlier one did not count", 1, x.handOn(0, 20240101, 6));
            x.takeBack(1);
            is("handOn: none is left", 6, x.handOn(0, 20240101, 7));
        });
        test("Terms 4", "What was known at a time is by what was told up to this time, less what was taken back up to "
            + "it.", () -> {
                comeMany(1);
                x.tell(0, 20240101, 1);
                x.takeBack(0);
                x.tell(0, 20240101, 2);
                x.takeBack(1);
                int[] due = {6, 1, 6, 2, 6};
                for (int time = 0; time < 5; time++) {
                    is("handOn at " + time, due[time], x.handOn(0, 20240101, time));
                    is("stays at " + time, due[time] == 6 ? 1 : 2, x.stays(0, time));
                }
            });
    }

    private static void stays() {
        test("Promise 28", "`stone`: number of a stone | Throws `IndexOutOfBoundsException` if there is no such stone", () -> {
            numbers("stays without stones", 0, stone -> x.stays(stone, 0));
            comeMany(10);
            numbers("stays", 10, stone -> x.stays(stone, 0));
            noIndex("stays: no stone ahead of no time", () -> x.stays(10, 1));
        });
        test("Promise 28", "`time`: 0 to the time, as of which is asked | Throws `IllegalArgumentException` if time is out of "
            + "range", () -> {
                comeMany(1);
                range("stays", 0, 0, time -> x.stays(0, time));
                tellMany(60);
                range("stays", 0, 60, time -> x.stays(0, time));
                x.takeBack(0);
                range("stays", 0, 61, time -> x.stays(0, time));
            });
        test("Promise 28", "Counts the stays of a stone, as they were known at a time. | Returns how many there are.", () -> {
            comeMany(2);
            is("stays: nothing is told", 1, x.stays(0, 0));
            for (int i = 0; i < 60; i++) {
                x.tell(0, 20240000 + 100 * (1 + i / 28) + 1 + i % 28, i % 2);
            }
            for (int time = 0; time <= 60; time++) {
                is("stays at " + time, time + 1, x.stays(0, time));
            }
            is("stays of another one", 1, x.stays(1, 60));
        });
        test("Promise 29", "`stone`: number of a stone | `stay`: number of a stay | "
            + "Throws `IndexOutOfBoundsException` if there is no such stone or stay", () -> {
                numbers("stayAt without stones", 0, stone -> x.stayAt(stone, 0, 0));
                comeMany(10);
                numbers("stayAt, stone", 10, stone -> x.stayAt(stone, 0, 0));
                numbers("stayAt, stay", 1, stay -> x.stayAt(0, stay, 0));
                noIndex("stayAt: no stay ahead of what is out of range", () -> x.stayAt(0, 1, 3));
                noIndex("stayAt: no stone ahead of what is out of range", () -> x.stayAt(10, 0, 3));
                for (int i = 0; i < 60; i++) {
                    x.tell(0, 20240000 + 100 * (1 + i / 28) + 1 + i % 28, i % 2);
                }
                numbers("stayAt of 61 stays", 61, stay -> x.stayAt(0, stay, 2));
                numbers("stayAt of another one", 1, stay -> x.stayAt(1, stay, 1));
                x.takeBack(59);
                numbers("stayAt of 60 stays, as it is known now", 60, stay -> x.stayAt(0, stay, 2));
            });
        test("Promise 29", "Throws `IllegalArgumentException` if what is out of range", () -> {
            comeMany(1);
            range("stayAt, what", 0, 2, what -> x.stayAt(0, 0, what));
        });
        test("Promise 29", "Tells about a stay of a stone, as it is known now. | "
            + "`what`: 0 its hand, 1 the date of its first day (NONE of the first stay), 2 the date of its last day (NONE of "
            + "the last stay; it can be 18991231) | Returns what is asked.", () -> {
                comeMany(1);
                stayIs(0, 6, -1, -1);
                x.tell(0, 19000101, 1);
                stayIs(0, 6, -1, 18991231);
                stayIs(1, 1, 19000101, -1);
                x.tell(0, 21991231, 2);
                stayIs(1, 1, 19000101, 21991230);
                stayIs(2, 2, 21991231, -1);
                x.takeBack(0);
                stayIs(0, 6, -1, 21991230);
                stayIs(1, 2, 21991231, -1);
            });
        test("Promise 29", "2 the date of its last day", () -> {
            comeMany(1);
            int[] firsts = {19000301, 20000301, 20240301, 21000301, 20250101, 20250201, 20250301, 20250401, 20250501,
                20250601, 20250701, 20250801, 20250901, 20251001, 20251101, 20251201, 20251202};
            int[] lasts = {19000228, 20000229, 20240229, 21000228, 20241231, 20250131, 20250228, 20250331, 20250430,
                20250531, 20250630, 20250731, 20250831, 20250930, 20251031, 20251130, 20251201};
            for (int i = 0; i < firsts.length; i++) {
                x.tell(0, firsts[i], i % 6);
                is("the last day ahead of " + firsts[i], lasts[i], x.stayAt(0, 0, 2));
                is("the first day", firsts[i], x.stayAt(0, 1, 1));
                x.undo();
            }
        });
        test("Terms 4", "A stay of a stone is a stretch of days in one hand, as long as can be (what is told again of the "
            + "same hand does not part it).", () -> {
                comeMany(1);
                x.tell(0, 20240101, 6);
                is("stays: the hand 6 again", 1, x.stays(0, 1));
                x.tell(0, 20240201, 1);
                x.tell(0, 20240301, 1);
                x.tell(0, 20240401, 1);
                stayIs(1, 1, 20240201, -1);
                x.tell(0, 20240301, 2);
                stayIs(1, 1, 20240201, 20240229);
                stayIs(2, 2, 20240301, 20240331);
                stayIs(3, 1, 20240401, -1);
                x.takeBack(4);
                stayIs(1, 1, 20240201, -1);
                is("stays", 2, x.stays(0, 6));
            });
        test("Terms 4", "The stays of a stone are numbered from 0, the first one without a beginning.", () -> {
            comeMany(1);
            x.tell(0, 20240201, 2);
            x.tell(0, 20240101, 1);
            stayIs(0, 6, -1, 20231231);
            stayIs(1, 1, 20240101, 20240131);
            stayIs(2, 2, 20240201, -1);
        });
    }

    private static void stayIs(int stay, int hand, int first, int last) {
        is("the hand of the stay " + stay, hand, x.stayAt(0, stay, 0));
        is("the first day of the stay " + stay, first, x.stayAt(0, stay, 1));
        is("the last day of the stay " + stay, last, x.stayAt(0, stay, 2));
    }

    private interface OfDays {
        long ask(int stone, int from, int to);
    }

    private static void stoneRows(String call, OfDays body) {
        numbers(call + " without stones", 0, stone -> body.ask(stone, 20240101, 20240101));
        comeMany(10);
        numbers(call, 10, stone -> body.ask(stone, 20240101, 20240101));
        noIndex(call + ": no stone ahead of no date", () -> body.ask(10, 0, 0));
        noIndex(call + ": no stone ahead of dates the wrong way round", () -> body.ask(10, 20240102, 20240101));
    }

    private static void dateRows(String call, OfDays body) {
        comeMany(1);
        dates(call + ", from", from -> body.ask(0, from, 21991231));
        dates(call + ", to", to -> body.ask(0, 19000101, to));
        dates(call + ", both", date -> body.ask(0, date, date));
        noArgument(call + " a day too early", () -> body.ask(0, 20240102, 20240101));
        noArgument(call + " a year too early", () -> body.ask(0, 20240101, 20231231));
        noArgument(call + " the wrong way round", () -> body.ask(0, 21991231, 19000101));
    }

    private static void days() {
        test("Promise 30", "`stone`: number of a stone | Throws `IndexOutOfBoundsException` if there is no such stone",
            () -> stoneRows("away", (stone, from, to) -> x.away(stone, from, to)));
        test("Promise 30", "`from`: a date | `to`: a date not ahead of it | "
            + "Throws `IllegalArgumentException` if one is no date in its range, or to is ahead of from",
            () -> dateRows("away", (stone, from, to) -> x.away(stone, from, to)));
        test("Promise 30", "Counts the days on which a stone is not in the museum, from a date to a date, as it is known now. "
            + "| Returns how many there are.", () -> {
                comeMany(1);
                is("away all days", 109573, x.away(0, 19000101, 21991231));
                is("away on one day", 1, x.away(0, 20240101, 20240101));
                x.tell(0, 19000101, 0);
                is("away on no day", 0, x.away(0, 19000101, 21991231));
                x.tell(0, 21991231, 6);
                is("away on the last day", 1, x.away(0, 19000101, 21991231));
                x.tell(0, 20240229, 3);
                x.tell(0, 20240301, 0);
                is("away on a leap day", 1, x.away(0, 20240101, 20241231));
                is("away: both ends count", 1, x.away(0, 20240229, 20240229));
                is("away: from behind it", 0, x.away(0, 20240301, 20241231));
                is("away: to ahead of it", 0, x.away(0, 20240101, 20240228));
                x.takeBack(3);
                is("away: as it is known now", 307, x.away(0, 20240101, 20241231));
            });
        test("Promise 30", "Counts the days on which a stone is not in the museum, from a date to a date", () -> {
            comeMany(1);
            int[] years = {1900, 1904, 1999, 2000, 2001, 2023, 2024, 2100, 2196, 2199};
            int[] lengths = {365, 366, 365, 366, 365, 365, 366, 365, 366, 365};
            for (int i = 0; i < years.length; i++) {
                is("away in " + years[i], lengths[i], x.away(0, 10000 * years[i] + 101, 10000 * years[i] + 1231));
                is("away behind February " + years[i], lengths[i] - 364,
                        x.away(0, 10000 * years[i] + 228, 10000 * years[i] + 301) - 1);
            }
        });
        test("Promise 31", "`stone`: number of a stone | Throws `IndexOutOfBoundsException` if there is no such stone",
            () -> stoneRows("fee", (stone, from, to) -> x.fee(stone, from, to)));
        test("Promise 31", "`from`: a date | `to`: a date not ahead of it | "
            + "Throws `IllegalArgumentException` if one is no date in its range, or to is ahead of from",
            () -> dateRows("fee", (stone, from, to) -> x.fee(stone, from, to)));
    }

    private static void fees() {
        test("Promise 31", "Returns the fee of a stone from a date to a date, as it is known now. | Returns the fee.", () -> {
            come("a", 0, 1, 1, 10000);
            come("b", 0, 1, 1, 0);
            x.tell(0, 19000101, 5);
            x.tell(1, 19000101, 5);
            is("fee: the greatest one", 5478650, x.fee(0, 19000101, 21991231));
            is("fee of a stone without a value", 0, x.fee(1, 19000101, 21991231));
            is("fee of one day", 50, x.fee(0, 21991231, 21991231));
            x.tell(0, 21991231, 0);
            is("fee of the last two days", 50, x.fee(0, 21991230, 21991231));
            x.takeBack(2);
            is("fee: as it is known now", 100, x.fee(0, 21991230, 21991231));
        });
        test("Terms 4", "The fee of a stone, from a day to a day (both with it), is the sum, over these days, of its value "
            + "times the number of the hand in which it is (0 for the hands 0 and 6)", () -> {
                come("a", 0, 1, 1, 1000);
                for (int hand = 0; hand < 7; hand++) {
                    x.tell(0, 20240101 + hand, hand);
                }
                for (int hand = 0; hand < 7; hand++) {
                    int date = 20240101 + hand;
                    is("fee of one day in the hand " + hand, hand == 6 ? 0 : hand, x.fee(0, date, date));
                }
                is("fee of all days", 15, x.fee(0, 20230101, 20250101));
                is("fee: both ends are with it", 5, x.fee(0, 20240103, 20240104));
            });
        test("Terms 4", "divided by 1000 and rounded down (the whole sum)", () -> {
            come("a", 0, 1, 1, 333);
            x.tell(0, 20240101, 1);
            is("fee of 999 thousandths", 0, x.fee(0, 20240101, 20240103));
            is("fee of 1332 thousandths", 1, x.fee(0, 20240101, 20240104));
            x.tell(0, 20240104, 3);
            is("fee of 999 and 999 thousandths", 1, x.fee(0, 20240101, 20240104));
            come("b", 0, 1, 1, 250);
            x.tell(1, 20240101, 4);
            is("fee of just 1000 thousandths", 1, x.fee(1, 20240101, 20240101));
        });
    }

    private static void inHands() {
        test("Promise 32", "`hand`: 0 to 6 | `date`: a date | Throws `IllegalArgumentException` if hand or date is out of "
            + "range", () -> {
                range("inHand without stones", 0, 6, hand -> x.inHand(hand, 20240101));
                dates("inHand without stones", date -> x.inHand(6, date));
                comeMany(1);
                range("inHand", 0, 6, hand -> x.inHand(hand, 20240101));
                dates("inHand", date -> x.inHand(0, date));
            });
        test("Promise 32", "Counts the stones that are in a hand on a day, as it is known now. | "
            + "Returns how many there are.", () -> {
                for (int hand = 0; hand < 7; hand++) {
                    is("inHand without stones", 0, x.inHand(hand, 20240101));
                }
                comeMany(10);
                is("inHand: all in the hand 6", 10, x.inHand(6, 20240101));
                for (int stone = 0; stone < 10; stone++) {
                    x.tell(stone, 20240102, 0);
                }
                is("inHand a day ahead", 10, x.inHand(6, 20240101));
                is("inHand: all in the museum", 10, x.inHand(0, 20240102));
                is("inHand: none", 0, x.inHand(6, 20240102));
                x.takeBack(9);
                is("inHand: as it is known now", 9, x.inHand(0, 20240102));
                is("inHand: as it is known now", 1, x.inHand(6, 20240102));
            });
    }

    private static void dates() {
        test("Terms 4", "Days are told as dates from 19000101 to 21991231: 10000 times the year plus 100 times the month plus "
            + "the day.", () -> {
                comeMany(1);
                int[] lengths = {31, 28, 31, 30, 31, 30, 31, 31, 30, 31, 30, 31};
                for (int month = 1; month <= 12; month++) {
                    int first = 20230000 + 100 * month + 1;
                    int last = first + lengths[month - 1] - 1;
                    is("the days of the month " + month, lengths[month - 1], x.away(0, first, last));
                    is("the last day and the next one", 2, x.away(0, last, month == 12 ? 20240101 : first + 100));
                    noArgument("no date: " + (first - 1), () -> x.away(0, first - 1, 21991231));
                    noArgument("no date: " + (last + 1), () -> x.away(0, 19000101, last + 1));
                }
                noArgument("no date: " + 20230001, () -> x.away(0, 20230001, 21991231));
                noArgument("no date: " + 20231301, () -> x.away(0, 20231301, 21991231));
            });
        test("Terms 9", "a number that is no date in its range, an IllegalArgumentException", () -> {
            comeMany(1);
            dates("tell", date -> x.tell(0, date, 0));
            dates("mostDays", date -> x.mostDays(0, date, 1));
            dates("show", date -> x.show(0, date, 1, 1));
        });
    }
}
