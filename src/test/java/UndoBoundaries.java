import java.util.function.LongSupplier;

/** The boundary cases of undo, of the figures and of exceptions: promises 45 to 49, terms 8 and 9. */
final class UndoBoundaries extends Boundaries {
    static void all() {
        undoing();
        changes();
        bringsBack();
        figures();
        exceptions();
        changeNothing();
    }

    /** A cabinet with something of all sorts in it, near what it holds; 16 changes. */
    private static void rich() {
        fresh();
        come("a", 0, 4, 40, 1000);
        come("b", 1, 5, 50, 2000);
        come("c", 2, 3, 30, 3000);
        x.scratch(0, 1);
        x.scratch(1, 2);
        x.setDrawer(0, 9, 90);
        x.part(0, 2, true);
        x.lay(0, 0);
        x.lay(1, 1);
        x.tell(0, 20240101, 1);
        x.tell(0, 20240201, 2);
        x.takeBack(0);
        x.setLight(0, 100);
        x.show(0, 20240101, 10, 10);
        x.offer(0, 0, 1);
        x.offer(1, 1, 0);
        x.write();
    }

    /** What all questions answer but errorPosition, which tells of the tape. */
    private static String asked() {
        StringBuilder all = new StringBuilder();
        int stones = x.stones();
        all.append(x.orders()).append(' ').append(x.ring()).append(' ').append(x.nextTest(true)).append(x.nextTest(false))
            .append(' ').append(x.plan()).append(x.rings()).append(' ').append(x.time()).append(' ').append(x.checksum())
            .append(' ').append(x.meanValue()).append(' ').append(x.laidShare()).append(' ').append(x.errors());
        for (int stone = 0; stone < stones; stone++) {
            all.append("\nstone ").append(stone);
            for (int what = 0; what < 6; what++) {
                all.append(' ').append(x.stoneOf(stone, what));
            }
            all.append(' ').append(x.rank(stone, true)).append(x.rank(stone, false)).append(x.withRank(stone, stone))
                .append(' ').append(x.light(stone, 2024)).append(' ').append(x.mostDays(stone, 20240101, 1))
                .append(' ').append(x.away(stone, 20230101, 20250101)).append(' ').append(x.fee(stone, 20230101, 20250101));
            for (int time = 0; time <= x.time(); time++) {
                all.append(' ').append(x.stays(stone, time)).append(x.handOn(stone, 20240115, time));
            }
            for (int stay = 0; stay < x.stays(stone, x.time()); stay++) {
                all.append(' ').append(x.stayAt(stone, stay, 0)).append(x.stayAt(stone, stay, 1))
                    .append(x.stayAt(stone, stay, 2));
            }
        }
        all.append('\n');
        for (int drawer = 0; drawer < 4; drawer++) {
            all.append(' ').append(x.lies(drawer, 0)).append(x.lies(drawer, 1)).append(x.lies(drawer, 2));
        }
        for (int hand = 0; hand < 7; hand++) {
            all.append(' ').append(x.inHand(hand, 20240301));
        }
        for (int place = 0; place < 10; place++) {
            int index = place;
            all.append(' ').append(orThrown(() -> x.writtenAt(index))).append(orThrown(() -> x.getsFrom(index)))
                .append(orThrown(() -> x.orderAt(index))).append(orThrown(() -> x.ringAt(index)));
        }
        return all.append(orThrown(() -> x.harder(0, 2))).append(orThrown(() -> x.shareOf(2, 1, true))).toString();
    }

    private static String orThrown(LongSupplier body) {
        try {
            return " " + body.getAsLong();
        } catch (RuntimeException e) {
            return " none";
        }
    }

    /** What changes tell of that no question tells. */
    private static String probed() {
        StringBuilder all = new StringBuilder();
        all.append(orThrown(() -> x.lay(1, 0))).append(orThrown(() -> x.lay(2, 0)));
        for (int drawer = 0; drawer < 4; drawer++) {
            int number = drawer;
            all.append(orThrown(() -> x.setDrawer(number, 99, 999)));
        }
        for (int one = 0; one < 6; one++) {
            for (int other = one; other < 6; other++) {
                all.append(' ').append(x.part(one, other, false));
            }
        }
        for (int stone = 0; stone < x.stones(); stone++) {
            all.append(' ').append(x.setLight(stone, 100000));
        }
        all.append(orThrown(() -> x.scratch(0, 1))).append(orThrown(() -> x.unscratch(1)))
            .append(orThrown(() -> x.takeBack(0))).append(orThrown(() -> x.takeBack(1)))
            .append(orThrown(() -> x.tell(0, 20240101, 1))).append(orThrown(() -> x.show(0, 20240101, 1, 1)))
            .append(orThrown(() -> x.offer(0, 0, 1)));
        return all.append(' ').append(x.clearOffers()).append(orThrown(() -> come("zzzz", 0, 1, 1, 0))).toString();
    }

    /** What is left when one change after the other is undone. */
    private static String undone() {
        StringBuilder all = new StringBuilder();
        for (int i = 0; i < 17; i++) {
            all.append(' ').append(x.undo()).append(' ').append(x.checksum()).append(' ').append(x.time()).append(' ')
                .append(x.orders()).append(' ').append(x.plan()).append(' ').append(x.stones() > 0 ? x.light(0, 2024) : -1);
        }
        return all.toString();
    }

    private static final int VIEWS = 3;

    private static String view(int number) {
        return number == 0 ? asked() : number == 1 ? probed() : undone();
    }

    private static void undoing() {
        test("Promise 45", "Returns the number of changes that can still be undone; NONE, and nothing is different, if there "
            + "was none.", () -> {
                is("undo of nothing", -1, x.undo());
                come("a", 0, 1, 1, 0);
                is("undo of the only one", 0, x.undo());
                is("undo of nothing", -1, x.undo());
                is("stones", 0, x.stones());
                comeMany(10);
                for (int i = 0; i < 5; i++) {
                    x.lay(i, 0);
                }
                is("undo of 15", 14, x.undo());
                x.lay(4, 0);
                x.lay(5, 0);
                is("undo of 16", 14, x.undo());
                for (int left = 13; left >= 0; left--) {
                    is("undo", left, x.undo());
                }
                is("stones", 1, x.stones());
                is("undo: none is left", -1, x.undo());
                is("undo: none is left", -1, x.undo());
                is("nothing is different", 1, x.stones());
                is("a change behind it", 0, x.lay(0, 3));
                is("undo of it", 0, x.undo());
            });
        test("Promise 45", "Undoes the latest change that can be undone.", () -> {
            comeMany(1);
            x.lay(0, 1);
            x.lay(0, 2);
            x.lay(0, 3);
            for (int drawer = 2; drawer >= 0; drawer--) {
                x.undo();
                drawersAre(drawer == 0 ? -1 : drawer);
            }
            x.lay(0, 0);
            x.undo();
            drawersAre(-1);
            x.undo();
            is("stones", 0, x.stones());
        });
        test("Terms 8", "The latest 15 changes can be undone, the latest one first (one that is older than these cannot be "
            + "undone any more, also when later ones were undone)", () -> {
                comeMany(1);
                for (int light = 1; light <= 40; light++) {
                    x.setLight(0, light);
                }
                for (int left = 14; left >= 10; left--) {
                    is("undo", left, x.undo());
                }
                is("setLight: the latest 5 were undone", 35, x.setLight(0, 99));
                for (int left = 10; left >= 0; left--) {
                    is("undo", left, x.undo());
                }
                is("undo: what is older cannot be undone", -1, x.undo());
                is("setLight: the 15 latest of 40 were undone", 25, x.setLight(0, 0));
            });
        test("Terms 8", "(one that is older than these cannot be undone any more, also when later ones were undone)", () -> {
            for (int round = 0; round < 4; round++) {
                for (int i = 0; i < 20; i++) {
                    x.setDrawer(0, i, 100 + round);
                }
                for (int left = 14; left >= 0; left--) {
                    is("undo", left, x.undo());
                }
                is("undo", -1, x.undo());
                is("setDrawer: 5 of 20 stay", 4, x.setDrawer(0, 50, 500));
                is("undo", 0, x.undo());
            }
        });
    }

    private static void changes() {
        test("Terms 8", "A change is each call that is none of the questions (told as such) but append(), clearTape() and "
            + "undo()", () -> {
                rich();
                is("undo", 14, x.undo());
                x.append(0x61000000, 0, 0, 0, 0);
                is("append is none", 13, x.undo());
                x.clearTape();
                is("clearTape is none", 12, x.undo());
                is("undo is none", 11, x.undo());
            });
        test("Terms 8", "none of the questions (told as such)", () -> {
            for (int view = 0; view < VIEWS; view++) {
                rich();
                String due = view(view);
                rich();
                asked();
                x.errorPosition();
                is("what is so behind all questions", due, view(view));
            }
        });
        test("Terms 8", "and that throws no exception (also if nothing is different, and if lay() or layAll() tells that it "
            + "cannot be)", () -> {
                comeMany(2);
                isChange("scratch", 0, () -> x.scratch(0, 1));
                isChange("setDrawer", 20, () -> x.setDrawer(0, 20, 200));
                isChange("part", 0, () -> partOf(0, 1, false));
                isChange("lay", 0, () -> x.lay(0, -1));
                isChange("layAll", 0, () -> x.layAll(false));
                isChange("tell", 0, () -> x.tell(0, 20240101, 6));
                isChange("setLight", 5000, () -> x.setLight(0, 5000));
                isChange("show", 0, () -> x.show(0, 20240101, 1, 1));
                isChange("offer", 0, () -> x.offer(0, 0, 1));
                isChange("clearOffers", 0, () -> x.clearOffers());
                isChange("join", 0, () -> x.join());
                isChange("stone", 2, () -> come("zz", 0, 1, 1, 0));
                x.scratch(0, 1);
                isChange("unscratch", 0, () -> x.unscratch(0));
                x.tell(0, 20240101, 6);
                isChange("takeBack", 2, () -> x.takeBack(0));
                x.setDrawer(1, 0, 200);
                isChange("lay that cannot be", 1, () -> x.lay(0, 1));
                x.setDrawer(0, 0, 200);
                x.setDrawer(2, 0, 200);
                x.setDrawer(3, 0, 200);
                isChange("layAll that cannot be", -1, () -> x.layAll(true));
                isChange("layAll that cannot be", -1, () -> x.layAll(false));
            });
    }

    /** Undoing leaves as many changes as there were ahead of the call; if it were none, one ahead of it would be undone. */
    private static void isChange(String call, long due, LongSupplier body) {
        x.setDrawer(3, 20, 200);
        int before = x.undo();
        is(call, due, body.getAsLong());
        is(call + " is a change: undo", before, x.undo());
    }

    private static void undoBringsBack(String call, LongSupplier body) {
        for (int view = 0; view < 2; view++) {
            rich();
            String due = view(view);
            rich();
            body.getAsLong();
            x.undo();
            is("what is so when " + call + " was undone", due, view(view));
        }
    }

    private static void bringsBack() {
        test("Terms 8", "all is then as it was ahead of it, also the time", () -> {
            undoBringsBack("stone", () -> come("d", 5, 9, 99, 10000));
            undoBringsBack("scratch", () -> x.scratch(2, 0));
            undoBringsBack("unscratch", () -> x.unscratch(0));
            undoBringsBack("setDrawer", () -> x.setDrawer(0, 99, 999));
            undoBringsBack("setDrawer", () -> x.setDrawer(3, 0, 0));
            undoBringsBack("part", () -> partOf(5, 5, true));
            undoBringsBack("part", () -> partOf(0, 2, false));
            undoBringsBack("lay", () -> x.lay(0, -1));
            undoBringsBack("lay", () -> x.lay(2, 1));
            undoBringsBack("layAll", () -> x.layAll(false));
            undoBringsBack("tell", () -> x.tell(1, 20240101, 0));
            undoBringsBack("takeBack", () -> x.takeBack(1));
            undoBringsBack("setLight", () -> x.setLight(0, 100000));
            undoBringsBack("show", () -> x.show(1, 20240101, 5, 1000));
            undoBringsBack("offer", () -> x.offer(2, 1, 0));
            undoBringsBack("clearOffers", () -> x.clearOffers());
            undoBringsBack("join", () -> {
                put("a 5 4 50 10000;zz 0 1 1 0;");
                return x.join();
        });
            rich();
            x.undo();
            is("undo behind undo: what can be undone is not brought back", 13, x.undo());
            is("undo behind undo", 12, x.undo());
        });
        test("Terms 8", "also the time", () -> {
            comeMany(1);
            x.tell(0, 20240101, 1);
            x.takeBack(0);
            is("time", 2, x.time());
            x.undo();
            is("time", 1, x.time());
            noArgument("handOn: that time is not yet", () -> x.handOn(0, 20240101, 2));
            x.undo();
            is("time", 0, x.time());
            noIndex("takeBack: nothing is told", () -> x.takeBack(0));
        });
        test("Terms 8", "but the tape, its error position, what is written, and what can be undone", () -> {
            comeMany(3);
            x.write();
            is("undo", 2, x.undo());
            is("undo: what can be undone is one less", 1, x.undo());
            is("writtenAt: what is written stays", 'c', x.writtenAt(24));
        });
        test("Terms 8", "but the tape, its error position, what is written", () -> {
            put("abc");
            is("stone", 0, x.stone(0, 1, 1, 0));
            is("undo", 0, x.undo());
            is("clearTape: the tape is not brought back", 0, x.clearTape());
            come("a", 0, 1, 1, 0);
            put("x?");
            noArgument("stone", () -> x.stone(0, 1, 1, 0));
            put("tape");
            is("write", 10, x.write());
            is("undo", 0, x.undo());
            is("errorPosition stays", 1, x.errorPosition());
            is("writtenAt stays", 'a', x.writtenAt(0));
            noIndex("writtenAt", () -> x.writtenAt(10));
            is("clearTape: the tape stays", 4, x.clearTape());
        });
    }

    private static void figures() {
        test("Promise 46", "17 at first, then for each stone 31 times as much, plus its kind, its size, its weight and its "
            + "value, plus its drawer | Returns the sum.", () -> {
                is("checksum without stones", 17, x.checksum());
                come("a", 0, 1, 1, 0);
                is("checksum: no drawer is -1", 17 * 31 + 2 - 1, x.checksum());
                x.lay(0, 0);
                is("checksum", 17 * 31 + 2, x.checksum());
                x.lay(0, 3);
                is("checksum", 17 * 31 + 2 + 3, x.checksum());
                come("b", 5, 9, 99, 10000);
                is("checksum", (17 * 31 + 5) * 31 + 10113 - 1, x.checksum());
            });
        test("Promise 46", "it wraps", () -> {
            long whole = 17;
            boolean wrapped = false;
            for (int i = 0; i < 10; i++) {
                come("" + (char) ('a' + i), 5, 9, 99, 10000);
                whole = 31 * whole + 10112;
                wrapped |= whole != (int) whole;
                is("checksum of " + (i + 1), (int) whole, x.checksum());
            }
            is("it wrapped", (Object) true, (Object) wrapped);
        });
        test("Promise 47", "Returns the mean value of the stones. | Returns the sum of their values, converted to double, "
            + "divided by their number, converted to double; 0.0 without stones.", () -> {
                is("meanValue without stones", (Object) 0.0, (Object) x.meanValue());
                come("a", 0, 1, 1, 0);
                is("meanValue of 0", (Object) 0.0, (Object) x.meanValue());
                come("b", 0, 1, 1, 1);
                come("c", 0, 1, 1, 1);
                is("meanValue", (Object) (2.0 / 3.0), (Object) x.meanValue());
                fresh();
                for (int i = 0; i < 10; i++) {
                    come("" + (char) ('a' + i), 0, 1, 1, 10000);
                }
                is("meanValue of the greatest ones", (Object) 10000.0, (Object) x.meanValue());
            });
        test("Promise 48", "Returns the share of the stones that lie in a drawer. | "
            + "Returns how many lie in one, converted to float, divided by their number, converted to float; 0.0f without "
            + "stones.", () -> {
                is("laidShare without stones", (Object) 0.0f, (Object) x.laidShare());
                comeMany(10);
                is("laidShare of none", (Object) 0.0f, (Object) x.laidShare());
                for (int i = 0; i < 10; i++) {
                    x.lay(i, i % 4);
                    is("laidShare", (Object) ((float) (i + 1) / 10.0f), (Object) x.laidShare());
                }
                is("laidShare of all", (Object) 1.0f, (Object) x.laidShare());
            });
        test("Promise 49", "Holds the cabinet against its theorem | Returns how many of these are not so; always 0.", () -> {
            is("errors without stones", 0, x.errors());
            for (int i = 0; i < 10; i++) {
                come("" + (char) ('a' + i), i % 6, 1 + i % 9, 99, 10000);
            }
            is("errors of 10 stones", 0, x.errors());
            for (int number = 0; number < 40; number++) {
                x.scratch(number % 5, 5 + number % 5);
            }
            for (int drawer = 0; drawer < 4; drawer++) {
                x.setDrawer(drawer, 99, 297);
            }
            is("layAll", 0, x.layAll(false));
            for (int number = 0; number < 60; number++) {
                x.tell(number % 10, number % 2 == 0 ? 19000101 : 21991231, number % 7);
            }
            for (int number = 0; number < 20; number++) {
                x.show(number % 10, 20231231, 2, 1000);
            }
            for (int number = 0; number < 8; number++) {
                x.offer(number % 5, number % 6, (number + 1) % 6);
            }
            is("errors where all is full", 0, x.errors());
            x.undo();
            is("scratch: 40 are told", "none", orThrown(() -> x.scratch(9, 0)).trim());
            x.unscratch(0);
            x.scratch(9, 4);
            is("ring", 2, x.ring());
            is("errors with a ring", 0, x.errors());
        });
    }

    private static void exceptions() {
        test("Terms 9", "If several exceptions apply to a call, the one that is listed first is thrown", () -> {
            rich();
            noIndex("stoneOf", () -> x.stoneOf(3, 6));
            noIndex("scratch", () -> x.scratch(3, 3));
            noIndex("withRank", () -> x.withRank(3, 10));
            noIndex("harder", () -> x.harder(-1, -1));
            noIndex("shareOf", () -> x.shareOf(3, 3, false));
            noArgument("setDrawer", () -> x.setDrawer(0, 0, 1000));
            noArgument("setDrawer", () -> x.setDrawer(0, -1, 0));
            noIndex("lay", () -> x.lay(3, 4));
            noIndex("tell", () -> x.tell(3, 0, 7));
            noIndex("handOn", () -> x.handOn(3, 0, -1));
            noIndex("stays", () -> x.stays(3, -1));
            noIndex("stayAt", () -> x.stayAt(3, 0, 3));
            noIndex("stayAt", () -> x.stayAt(0, 2, 3));
            noIndex("away", () -> x.away(3, 2, 1));
            noIndex("fee", () -> x.fee(3, 2, 1));
            noIndex("setLight", () -> x.setLight(3, -1));
            noIndex("show", () -> x.show(3, 0, 0, 0));
            noArgument("show", () -> x.show(0, 21991231, 400, 1000));
            noArgument("show", () -> x.show(0, 20240101, 1, 1001));
            noIndex("light", () -> x.light(3, 0));
            noIndex("mostDays", () -> x.mostDays(3, 0, 0));
            put("a 9 9 9 9;" + "b 0 9 99 0;d 0 1 1 0;e 0 1 1 0;f 0 1 1 0;g 0 1 1 0;h 0 1 1 0;i 0 1 1 0;j 0 1 1 0;k 0 1 1 0;");
            noArgument("join", () -> x.join());
        });
        test("Terms 9", "If several exceptions apply to a call, the one that is listed first is thrown", () -> {
            comeMany(10);
            put("a");
            noArgument("stone", () -> x.stone(0, 1, 1, 0));
            scratchMany(40);
            noIndex("scratch", () -> x.scratch(0, 10));
            noArgument("scratch", () -> x.scratch(0, 0));
            for (int number = 0; number < 60; number++) {
                x.tell(0, 20240101, 0);
            }
            noIndex("tell", () -> x.tell(10, 20240101, 0));
            noArgument("tell", () -> x.tell(0, 20240101, 7));
            for (int number = 0; number < 20; number++) {
                x.show(0, 20240101, 1, 1);
            }
            noIndex("show", () -> x.show(10, 20240101, 1, 1));
            noArgument("show", () -> x.show(0, 20240101, 401, 1));
            for (int number = 0; number < 8; number++) {
                x.offer(0, 0, 1);
            }
            noArgument("offer", () -> x.offer(0, 1, 1));
        });
        test("Terms 9", "A stone, a scratch, something told, or a place that is not there causes an "
            + "IndexOutOfBoundsException", () -> {
                rich();
                noIndex("a stone", () -> x.stoneOf(3, 0));
                noIndex("a scratch", () -> x.unscratch(2));
                noIndex("something told of a hand", () -> x.takeBack(2));
                noIndex("an offer", () -> x.getsFrom(2));
                noIndex("a place in an order", () -> x.orderAt(3));
                noIndex("a place in a ring", () -> x.ringAt(0));
                noIndex("a place in what is written", () -> x.writtenAt(99));
                noIndex("a stay", () -> x.stayAt(1, 1, 0));
            });
        test("Terms 9", "another number out of range", () -> {
            rich();
            noArgument("what", () -> x.stoneOf(0, 6));
            noArgument("a rank", () -> x.withRank(0, 10));
            noArgument("a drawer", () -> x.lies(4, 0));
            noArgument("a kind", () -> partOf(6, 0, true));
            noArgument("a hand", () -> x.inHand(7, 20240101));
            noArgument("a time", () -> x.stays(0, 4));
            noArgument("a year", () -> x.light(0, 2200));
            noArgument("a light", () -> x.setLight(0, 100001));
            noArgument("a museum", () -> x.offer(5, 0, 1));
        });
    }

    /** A rich cabinet with an error at 1, and 285 blanks on the tape. */
    private static void richWithTape() {
        rich();
        put("x?");
        noArgument("stone", () -> x.stone(0, 1, 1, 0));
        put(" ".repeat(285));
    }

    private static void changesNothing(String call, Class<?> due, LongSupplier body) {
        for (int view = 0; view < VIEWS; view++) {
            richWithTape();
            x.clearTape();
            String asBefore = view(view);
            richWithTape();
            fails(call, due, body);
            is("errorPosition behind " + call, 1, x.errorPosition());
            is("clearTape behind " + call, 285, x.clearTape());
            is("what is so behind " + call, asBefore, view(view));
        }
    }

    private static void changeNothing() {
        Class<?> noIndex = IndexOutOfBoundsException.class;
        Class<?> noArgument = IllegalArgumentException.class;
        Class<?> noState = IllegalStateException.class;
        test("Terms 9", "a call that throws an exception changes nothing", () -> {
            changesNothing("append", noState, () -> x.append(-1, -1, -1, -1, -1));
            changesNothing("stoneOf", noIndex, () -> x.stoneOf(3, 0));
            changesNothing("scratch", noIndex, () -> x.scratch(0, 3));
            changesNothing("scratch", noArgument, () -> x.scratch(1, 1));
            changesNothing("unscratch", noIndex, () -> x.unscratch(2));
            changesNothing("ringAt", noIndex, () -> x.ringAt(0));
            changesNothing("orderAt", noIndex, () -> x.orderAt(3));
            changesNothing("setDrawer", noArgument, () -> x.setDrawer(0, 99, 1000));
            changesNothing("setDrawer", noArgument, () -> x.setDrawer(0, 100, 999));
            changesNothing("setDrawer", noState, () -> x.setDrawer(0, 3, 999));
            changesNothing("setDrawer", noState, () -> x.setDrawer(0, 99, 39));
            changesNothing("part", noArgument, () -> partOf(0, 6, true));
            changesNothing("lay", noIndex, () -> x.lay(3, 0));
            changesNothing("lay", noArgument, () -> x.lay(0, 4));
            changesNothing("tell", noArgument, () -> x.tell(0, 20240230, 0));
            changesNothing("tell", noArgument, () -> x.tell(0, 20240101, 7));
            changesNothing("takeBack", noIndex, () -> x.takeBack(2));
            changesNothing("takeBack", noState, () -> x.takeBack(0));
            changesNothing("setLight", noArgument, () -> x.setLight(0, 100001));
            changesNothing("setLight", noState, () -> x.setLight(0, 99));
            changesNothing("show", noArgument, () -> x.show(1, 20240101, 1, 1001));
            changesNothing("show", noArgument, () -> x.show(1, 21991231, 2, 1));
            changesNothing("show", noState, () -> x.show(0, 20240101, 1, 1));
            changesNothing("offer", noArgument, () -> x.offer(5, 1, 0));
            changesNothing("offer", noArgument, () -> x.offer(2, 1, 1));
            changesNothing("writtenAt", noIndex, () -> x.writtenAt(-1));
        });
        test("Terms 9", "a call that throws an exception changes nothing", () -> {
            for (int view = 0; view < VIEWS; view++) {
                richWithPairInDrawer();
                String due = view(view);
                richWithPairInDrawer();
                noState("part", () -> partOf(0, 1, true));
                is("what is so behind part", due, view(view));
            }
        });
        test("Terms 9", "except that calls that read the tape empty it and set the error position", () -> {
            reads("stone: no code", noArgument, 2, "dd?", () -> x.stone(0, 1, 1, 0));
            reads("stone: the code of another one", noArgument, 0, "c", () -> x.stone(0, 1, 1, 0));
            reads("stone: a number out of range", noArgument, -1, "dd?", () -> x.stone(0, 1, 1, -1));
            reads("join: an error", noArgument, 26, "a 5 9 99 9;d 0 1 1 0;b 0 1", () -> x.join());
            reads("join: refused", noState, -1, "c 5 9 99 9;d 0 1 1 0;a 0 9 91 0;", () -> x.join());
            reads("join: refused", noState, -1,
                    "c 5 9 99 9;d0 1 1 0;e0 1 1 0;f0 1 1 0;g0 1 1 0;h0 1 1 0;i0 1 1 0;j0 1 1 0;k0 1 1 0;", () -> x.join());
        });
        test("Terms 9", "except that calls that read the tape empty it and set the error position", () -> {
            comeMany(10);
            put("x?");
            noArgument("stone", () -> x.stone(0, 1, 1, 0));
            put("x");
            noState("stone", () -> x.stone(0, 1, 1, 0));
            is("errorPosition", -1, x.errorPosition());
            is("clearTape", 0, x.clearTape());
            is("undo of the tenth stone", 9, x.undo());
        });
    }

    private static void richWithPairInDrawer() {
        rich();
        x.lay(1, 0);
    }

    private static void reads(String call, Class<?> due, int position, String text, LongSupplier body) {
        for (int view = 0; view < VIEWS; view++) {
            rich();
            String asBefore = view(view);
            rich();
            put("abcdef?");
            noArgument("join", () -> x.join());
            put(text);
            fails(call, due, body);
            is("errorPosition behind " + call, position, x.errorPosition());
            is("clearTape behind " + call, 0, x.clearTape());
            is("what is so behind " + call, asBefore, view(view));
        }
    }
}
