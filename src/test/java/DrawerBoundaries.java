/** The boundary cases of drawers and layings: promises 19 to 23, and term 3. */
final class DrawerBoundaries extends Boundaries {
    static void all() {
        setting();
        parting();
        laying();
        lying();
        layingAll();
    }

    private static void setting() {
        test("Promise 19", "`drawer`: 0 to 3 | `size`: 0 to 99 | `weight`: 0 to 999 | "
            + "Throws `IllegalArgumentException` if a number is out of range", () -> {
                range("setDrawer, drawer", 0, 3, drawer -> x.setDrawer(drawer, 20, 200));
                range("setDrawer, size", 0, 99, size -> x.setDrawer(0, size, 200));
                range("setDrawer, weight", 0, 999, weight -> x.setDrawer(0, 20, weight));
                comeMany(1);
                x.lay(0, 0);
                noArgument("setDrawer: out of range, and more lies in it", () -> x.setDrawer(0, 0, 1000));
                noArgument("setDrawer: out of range, and more lies in it", () -> x.setDrawer(0, -1, 0));
            });
        test("Promise 19", "Throws `IllegalStateException` if more lies in it", () -> {
            comeAlike(2, 0, 9, 99);
            x.lay(0, 3);
            x.lay(1, 3);
            is("setDrawer: just as much lies in it", 20, x.setDrawer(3, 18, 198));
            noState("setDrawer: the size", () -> x.setDrawer(3, 17, 999));
            noState("setDrawer: the weight", () -> x.setDrawer(3, 99, 197));
            noState("setDrawer: both", () -> x.setDrawer(3, 0, 0));
            is("setDrawer of another one", 20, x.setDrawer(2, 0, 0));
            x.lay(0, -1);
            is("setDrawer", 18, x.setDrawer(3, 9, 99));
            x.lay(1, -1);
            is("setDrawer", 9, x.setDrawer(3, 0, 0));
        });
        test("Promise 19", "Sets what a drawer holds. | Returns the size that it held.", () -> {
            is("setDrawer", 20, x.setDrawer(0, 0, 999));
            is("setDrawer", 0, x.setDrawer(0, 99, 0));
            is("setDrawer", 99, x.setDrawer(0, 9, 9));
            comeAlike(1, 0, 9, 9);
            is("lay: just held", 0, x.lay(0, 0));
        });
        test("Terms 3", "There are the drawers 0 to 3, each with a size and a weight that it holds (0 to 99 and 0 to 999, at "
            + "first 20 and 200).", () -> {
                come("a", 0, 9, 99, 0);
                come("b", 0, 9, 99, 0);
                come("c", 0, 2, 2, 0);
                come("d", 0, 2, 3, 0);
                come("e", 0, 3, 1, 0);
                for (int drawer = 0; drawer < 4; drawer++) {
                    is("lay", 0, x.lay(0, drawer));
                    is("lay", 0, x.lay(1, drawer));
                    is("lay: a size of 21", 1, x.lay(4, drawer));
                    is("lay: a weight of 201", 2, x.lay(3, drawer));
                    is("lay: just 20 and 200", 0, x.lay(2, drawer));
                    is("lies: the sizes", 20, x.lies(drawer, 1));
                    is("lies: the weights", 200, x.lies(drawer, 2));
                    x.lay(2, -1);
                }
                is("setDrawer", 20, x.setDrawer(0, 99, 999));
                is("setDrawer", 99, x.setDrawer(0, 0, 0));
                is("lay into a drawer that holds nothing", 1, x.lay(2, 0));
            });
    }

    private static void parting() {
        test("Promise 20", "`one`: 0 to 5 | Throws `IllegalArgumentException` if a number is out of range", () -> {
            range("part, one", 0, 5, one -> partOf(one, 0, true));
            range("part, one", 0, 5, one -> partOf(one, 5, false));
        });
        test("Promise 20", "`other`: 0 to 5, perhaps the same", () -> {
            range("part, other", 0, 5, other -> partOf(0, other, true));
            range("part, other", 0, 5, other -> partOf(5, other, false));
            is("part of the same", 1, partOf(0, 0, true));
            is("part of the same", 0, partOf(5, 5, true));
            is("part of the same", 1, partOf(5, 5, false));
        });
        test("Promise 20", "Tells that two kinds do not lie together, or that they may. | "
            + "`arePartedNow`: whether they do not lie together | Returns whether they did not.", () -> {
                for (int one = 0; one < 6; one++) {
                    for (int other = one; other < 6; other++) {
                        is("part at first", 0, partOf(one, other, false));
                        is("part of those that may", 0, partOf(one, other, true));
                        is("part of those that may not, the other way round", 1, partOf(other, one, true));
                        is("part of those that may not", 1, partOf(other, one, false));
                        is("part of those that may again", 0, partOf(one, other, false));
                    }
                }
            });
        test("Promise 20", "Throws `IllegalStateException` if stones of them lie together", () -> {
            come("a", 0, 1, 1, 0);
            come("b", 5, 1, 1, 0);
            is("part: in no drawer", 0, partOf(0, 5, true));
            x.part(0, 5, false);
            x.lay(0, 0);
            is("part: only one of them lies", 0, partOf(0, 5, true));
            x.part(0, 5, false);
            x.lay(1, 3);
            is("part: in unlike drawers", 0, partOf(0, 5, true));
            x.part(0, 5, false);
            x.lay(1, 0);
            noState("part", () -> partOf(0, 5, true));
            noState("part, the other way round", () -> partOf(5, 0, true));
            noArgument("part: out of range", () -> partOf(0, 6, true));
            is("part of other kinds", 0, partOf(0, 4, true));
            is("part of other kinds", 0, partOf(5, 1, true));
            is("part: that they may, of those that lie together, is told", 0, partOf(0, 5, false));
        });
        test("Terms 3", "(a kind also not with itself: then two stones of it do not)", () -> {
            comeAlike(3, 5, 1, 1);
            x.lay(0, 2);
            is("part: one stone of the kind", 0, partOf(5, 5, true));
            is("lay: two stones of the kind", 3, x.lay(1, 2));
            is("lay: one stone alone", 0, x.lay(1, 1));
            is("lay where it lies: it is not with itself", 0, x.lay(0, 2));
            x.part(5, 5, false);
            is("lay", 0, x.lay(1, 2));
            noState("part: two stones of the kind lie together", () -> partOf(5, 5, true));
        });
        test("Terms 3", "Two kinds can be told not to lie together", () -> {
            come("a", 0, 1, 1, 0);
            come("b", 5, 1, 1, 0);
            come("c", 4, 1, 1, 0);
            x.part(5, 0, true);
            x.lay(0, 0);
            is("lay", 3, x.lay(1, 0));
            is("lay of another kind", 0, x.lay(2, 0));
            is("lay of the third one", 3, x.lay(1, 0));
            x.lay(0, -1);
            is("lay", 0, x.lay(1, 0));
            is("lay", 3, x.lay(0, 0));
        });
    }

    private static void laying() {
        test("Promise 21", "`stone`: number of a stone | Throws `IndexOutOfBoundsException` if there is no such stone", () -> {
            numbers("lay without stones", 0, stone -> x.lay(stone, 0));
            comeMany(10);
            numbers("lay", 10, stone -> x.lay(stone, 3));
            noIndex("lay: no stone ahead of a drawer out of range", () -> x.lay(10, 4));
            noIndex("lay: no stone ahead of a drawer out of range", () -> x.lay(-1, -2));
        });
        test("Promise 21", "`drawer`: 0 to 3, or NONE | Throws `IllegalArgumentException` if drawer is out of range", () -> {
            comeMany(1);
            range("lay", -1, 3, drawer -> x.lay(0, drawer));
            is("the last one that was good", 3, x.stoneOf(0, 4));
        });
        test("Promise 21", "Lays a stone into a drawer, or takes it out (NONE).", () -> {
            comeMany(1);
            is("lay out of none", 0, x.lay(0, -1));
            for (int drawer = 0; drawer < 4; drawer++) {
                is("lay", 0, x.lay(0, drawer));
                drawersAre(drawer);
            }
            is("lay out", 0, x.lay(0, -1));
            drawersAre(-1);
        });
        test("Promise 21", "A stone that lies in a drawer already leaves it first.", () -> {
            comeAlike(2, 0, 9, 99);
            x.setDrawer(0, 9, 99);
            x.setDrawer(1, 9, 99);
            is("lay", 0, x.lay(0, 0));
            is("lay where it lies, in a drawer that is full", 0, x.lay(0, 0));
            is("lay", 1, x.lay(1, 0));
            is("lay into another one", 0, x.lay(0, 1));
            is("lies: the drawer that it left", 0, x.lies(0, 0));
            is("lay", 0, x.lay(1, 0));
        });
        test("Promise 21", "Returns 0 if it lies so now; otherwise why it cannot be (1 to 3), and nothing is "
            + "different.", () -> {
                come("a", 0, 9, 99, 0);
                come("b", 0, 9, 99, 0);
                x.lay(0, 1);
                x.lay(1, 2);
                x.setDrawer(1, 9, 999);
                is("the size", 1, x.lay(1, 1));
                drawersAre(1, 2);
                x.setDrawer(1, 99, 197);
                is("the weight", 2, x.lay(1, 1));
                drawersAre(1, 2);
                x.setDrawer(1, 99, 198);
                x.part(0, 0, true);
                is("the kinds", 3, x.lay(1, 1));
                drawersAre(1, 2);
                x.part(0, 0, false);
                is("lay", 0, x.lay(1, 1));
                drawersAre(1, 1);
            });
        test("Terms 3", "A stone can be laid into a drawer if the sizes and the weights of all that lie in it then are at "
            + "most what it holds, and no two of them are of kinds that do not lie together.", () -> {
                come("a", 0, 4, 40, 0);
                come("b", 1, 5, 50, 0);
                x.setDrawer(0, 9, 90);
                x.setDrawer(1, 8, 90);
                x.setDrawer(2, 9, 89);
                for (int drawer = 0; drawer < 4; drawer++) {
                    is("lay of the one", 0, x.lay(0, drawer));
                    is("lay of the other", drawer == 1 ? 1 : drawer == 2 ? 2 : 0, x.lay(1, drawer));
                }
                x.lay(1, -1);
                x.part(1, 0, true);
                is("lay", 3, x.lay(1, 3));
            });
        test("Terms 3", "Why it cannot be: 1 the size, 2 the weight, 3 the kinds, the first of these.", () -> {
            comeAlike(2, 3, 9, 99);
            x.part(3, 3, true);
            x.setDrawer(0, 9, 99);
            x.lay(0, 0);
            is("all three", 1, x.lay(1, 0));
            x.setDrawer(0, 9, 198);
            is("the size and the kinds", 1, x.lay(1, 0));
            x.setDrawer(0, 18, 197);
            is("the weight and the kinds", 2, x.lay(1, 0));
            x.setDrawer(0, 18, 198);
            is("the kinds", 3, x.lay(1, 0));
            x.part(3, 3, false);
            x.setDrawer(0, 17, 197);
            is("the size and the weight", 1, x.lay(1, 0));
            x.setDrawer(0, 18, 198);
            is("none", 0, x.lay(1, 0));
        });
        test("Terms 3", "A stone lies in one drawer or in none (at first).", () -> {
            comeMany(9);
            put("k 0 1 1 0;");
            is("join", 1, x.join());
            drawersAre(-1, -1, -1, -1, -1, -1, -1, -1, -1, -1);
            for (int drawer = 0; drawer < 4; drawer++) {
                x.lay(0, drawer);
                is("lies", 1, x.lies(0, 0) + x.lies(1, 0) + x.lies(2, 0) + x.lies(3, 0));
            }
        });
    }

    private static void lying() {
        test("Promise 22", "`drawer`: 0 to 3 | Throws `IllegalArgumentException` if a number is out of range", () -> {
            range("lies, drawer", 0, 3, drawer -> x.lies(drawer, 0));
            range("lies, what", 0, 2, what -> x.lies(0, what));
        });
        test("Promise 22", "Tells what lies in a drawer. | `what`: 0 how many stones, 1 their sizes, 2 their weights, "
            + "together | Returns what is asked.", () -> {
                for (int what = 0; what < 3; what++) {
                    is("lies without stones", 0, x.lies(0, what));
                }
                comeAlike(10, 0, 9, 99);
                for (int what = 0; what < 3; what++) {
                    is("lies: stones in no drawer lie in none", 0, x.lies(3, what));
                }
                x.setDrawer(3, 90, 990);
                for (int stone = 0; stone < 10; stone++) {
                    is("lay", 0, x.lay(stone, 3));
                }
                is("lies", 10, x.lies(3, 0));
                is("lies", 90, x.lies(3, 1));
                is("lies", 990, x.lies(3, 2));
                is("lies", 0, x.lies(2, 0));
            });
    }

    private static void layingAll() {
        test("Promise 23", "NONE, and nothing is different, if there is no laying", () -> {
            comeAlike(9, 0, 9, 1);
            x.lay(8, 3);
            is("layAll: 9 stones, of which 8 fit", -1, x.layAll(false));
            is("layAll: 9 stones, of which 8 fit", -1, x.layAll(true));
            drawersAre(-1, -1, -1, -1, -1, -1, -1, -1, 3);
            x.setDrawer(0, 27, 200);
            is("layAll: one more fits", 0, x.layAll(false));
            drawersAre(0, 0, 0, 1, 1, 2, 2, 3, 3);
        });
        test("Promise 23", "NONE, and nothing is different, if there is no laying", () -> {
            comeAlike(5, 2, 1, 1);
            x.part(2, 2, true);
            is("layAll: 5 that must lie alone", -1, x.layAll(true));
            is("layAll: 5 that must lie alone", -1, x.layAll(false));
            drawersAre(-1, -1, -1, -1, -1);
            x.part(2, 2, false);
            for (int drawer = 0; drawer < 4; drawer++) {
                x.setDrawer(drawer, 99, drawer);
            }
            is("layAll: weights of 5 where 6 are held", 0, x.layAll(false));
            drawersAre(1, 2, 2, 3, 3);
            for (int stone = 0; stone < 5; stone++) {
                x.lay(stone, -1);
            }
            x.setDrawer(1, 99, 0);
            is("layAll: weights of 5 where 5 are held", 0, x.layAll(true));
            drawersAre(2, 2, 3, 3, 3);
            for (int stone = 0; stone < 5; stone++) {
                x.lay(stone, -1);
            }
            x.setDrawer(2, 99, 1);
            is("layAll: weights of 5 where 4 are held", -1, x.layAll(true));
            drawersAre(-1, -1, -1, -1, -1);
        });
        test("Promise 23", "Returns how many stones that lay in a drawer have another one by this", () -> {
            is("layAll without stones", 0, x.layAll(false));
            is("layAll without stones", 0, x.layAll(true));
            comeMany(10);
            is("layAll: none lay in a drawer", 0, x.layAll(false));
            drawersAre(0, 0, 0, 0, 0, 0, 0, 0, 0, 0);
            is("layAll: each has its own", 0, x.layAll(false));
            for (int stone = 0; stone < 10; stone++) {
                x.lay(stone, 3);
            }
            is("layAll: nearest", 0, x.layAll(true));
            is("layAll: first", 10, x.layAll(false));
        });
        test("Promise 23", "Makes the first laying, or the nearest one. | `isNearest`: whether the nearest one is "
            + "made", () -> {
                comeMany(2);
                x.lay(1, 1);
                is("layAll: nearest", 0, x.layAll(true));
                drawersAre(0, 1);
                is("layAll: first", 1, x.layAll(false));
                drawersAre(0, 0);
            });
        test("Terms 3", "A laying gives each stone a drawer, so that all lie as they may.", () -> {
            come("a", 0, 9, 1, 0);
            come("b", 1, 9, 1, 0);
            come("c", 2, 9, 1, 0);
            come("d", 3, 2, 99, 0);
            x.part(0, 1, true);
            x.setDrawer(0, 20, 100);
            is("layAll", 0, x.layAll(false));
            drawersAre(0, 1, 0, 1);
            x.lay(3, -1);
            x.setDrawer(1, 20, 99);
            is("layAll", 0, x.layAll(true));
            drawersAre(0, 1, 0, 2);
        });
        test("Terms 3", "The first laying is, of all, the one in which stone 0 has the least drawer, of these the one in "
            + "which stone 1 has, and so on.", () -> {
                comeAlike(8, 0, 9, 1);
                is("layAll: as many as can be", 0, x.layAll(false));
                drawersAre(0, 0, 1, 1, 2, 2, 3, 3);
                fresh();
                come("a", 0, 2, 1, 0);
                come("b", 0, 3, 1, 0);
                come("c", 0, 1, 1, 0);
                x.setDrawer(0, 3, 200);
                x.setDrawer(1, 0, 200);
                is("layAll: not the most stones in the drawer 0, but the stone 0", 0, x.layAll(false));
                drawersAre(0, 2, 0);
            });
        test("Terms 3", "of these the one in which stone 1 has, and so on", () -> {
            come("a", 0, 1, 1, 0);
            come("b", 1, 1, 1, 0);
            come("c", 2, 1, 1, 0);
            come("d", 0, 1, 1, 0);
            x.part(0, 0, true);
            x.part(0, 1, true);
            x.part(1, 2, true);
            is("layAll", 0, x.layAll(false));
            drawersAre(0, 1, 0, 2);
            x.lay(3, -1);
            x.setDrawer(2, 0, 0);
            is("layAll", 0, x.layAll(false));
            drawersAre(0, 1, 0, 3);
            x.lay(3, -1);
            x.setDrawer(3, 0, 0);
            is("layAll: 0, 1 and 3 may not lie in 2 drawers", -1, x.layAll(false));
        });
        test("Terms 3", "The nearest laying is the one in which the fewest stones that lie in a drawer have another "
            + "one", () -> {
                comeMany(3);
                x.lay(0, 3);
                x.lay(1, 3);
                x.setDrawer(0, 0, 0);
                come("d", 1, 9, 99, 0);
                x.lay(3, 2);
                is("layAll: none needs another one", 0, x.layAll(true));
                drawersAre(3, 3, 1, 2);
                x.lay(2, -1);
                x.setDrawer(1, 0, 0);
                x.setDrawer(2, 9, 200);
                x.setDrawer(3, 2, 200);
                is("layAll: the one that lies in none has no room", -1, x.layAll(true));
                x.setDrawer(2, 10, 200);
                is("layAll: it has room, and none leaves", 0, x.layAll(true));
                drawersAre(3, 3, 2, 2);
            });
        test("Terms 3", "of several the first one", () -> {
            come("a", 0, 5, 1, 0);
            come("b", 0, 5, 1, 0);
            come("c", 0, 9, 1, 0);
            x.setDrawer(0, 10, 200);
            x.setDrawer(1, 5, 200);
            x.setDrawer(2, 5, 200);
            x.setDrawer(3, 0, 200);
            x.lay(0, 0);
            x.lay(1, 0);
            is("layAll: both must leave", 2, x.layAll(true));
            drawersAre(1, 2, 0);
            x.lay(2, -1);
            x.lay(0, 0);
            x.lay(1, 0);
            x.setDrawer(0, 14, 200);
            is("layAll: one must leave, and first is that 0 stays", 1, x.layAll(true));
            drawersAre(0, 1, 0);
        });
    }
}
