/** For each promise: ordinary inputs, the edges that the document names, and wrong inputs; the answers by hand. */
public final class PromiseTests extends Checks {
    private static void p1() {
        fresh();
        is("NONE", -1, Stonecabinet.NONE);
        is("stones", 0, x.stones());
        is("clearTape", 0, x.clearTape());
        is("errorPosition", -1, x.errorPosition());
        is("time", 0, x.time());
        is("undo", -1, x.undo());
        is("ring", 0, x.ring());
        is("plan", 0, x.plan());
        noIndex("writtenAt", () -> x.writtenAt(0));
        noIndex("unscratch", () -> x.unscratch(0));
        noIndex("takeBack", () -> x.takeBack(0));
        noIndex("getsFrom", () -> x.getsFrom(0));
        is("setDrawer size at first", 20, x.setDrawer(3, 0, 0));
        Stonecabinet other = new Stonecabinet();
        comeMany(2);
        is("stones of another", 0, other.stones());
    }

    private static void p2() {
        fresh();
        is("append of nothing", 0, x.append(0, 0, 0, 0, 0));
        is("append", 5, x.append(0x61006200, 0x63, 0, 0x64000000, 0x00650000));
        is("append 20", 25, x.append(-1, -1, -1, -1, -1));
        is("clearTape", 25, x.clearTape());
        x.append(0x00610000, 0x00000062, 0x63000000, 0, 0x64);
        x.stone(0, 1, 1, 0);
        x.write();
        is("order of bytes", "abcd 0 1 1 0;", written());
        for (int i = 1; i <= 14; i++) {
            is("append", 20 * i, x.append(0x20202020, 0x20202020, 0x20202020, 0x20202020, 0x20202020));
        }
        is("append", 299, x.append(0x20202020, 0x20202020, 0x20202020, 0x20202020, 0x20202000));
        noState("append of 2", () -> x.append(0x2020, 0, 0, 0, 0));
        is("append of 1", 300, x.append(0x20, 0, 0, 0, 0));
        noState("append of 1", () -> x.append(0, 0, 0, 0, 1));
        is("append of 0", 300, x.append(0, 0, 0, 0, 0));
        is("clearTape", 300, x.clearTape());
    }

    private static void p3() {
        fresh();
        put("abc");
        is("clearTape", 3, x.clearTape());
        is("clearTape", 0, x.clearTape());
        put("9");
        noArgument("stone", () -> x.stone(0, 1, 1, 0));
        put("a");
        x.clearTape();
        is("errorPosition stays", 0, x.errorPosition());
        is("undo: no change", -1, x.undo());
    }

    private static void p4() {
        fresh();
        is("errorPosition", -1, x.errorPosition());
        put("ab1");
        noArgument("stone", () -> x.stone(0, 1, 1, 0));
        is("errorPosition", 2, x.errorPosition());
        put("ab");
        is("errorPosition before reading", 2, x.errorPosition());
        x.stone(0, 1, 1, 0);
        is("errorPosition", -1, x.errorPosition());
        put("a 1");
        noArgument("join", () -> x.join());
        is("errorPosition", 3, x.errorPosition());
        x.undo();
        is("errorPosition after undo", 3, x.errorPosition());
    }

    private static void badNumbers(int kind, int size, int weight, int value) {
        put("a1");
        noArgument("stone", () -> x.stone(kind, size, weight, value));
        is("errorPosition", -1, x.errorPosition());
        is("tape is empty", 0, x.clearTape());
    }

    private static void p5() {
        fresh();
        is("stone", 0, come("abcd", 5, 9, 99, 10000));
        is("stone", 1, come("z", 0, 1, 1, 0));
        is("tape is empty", 0, x.clearTape());
        badCode("", 0);
        badCode("abcde", 4);
        badCode("abcd1", 4);
        badCode("A", 0);
        badCode(" a", 0);
        badCode("a ", 1);
        badCode("a`", 1);
        badCode("a{", 1);
        badCode("a\u00ff", 1);
        badCode("z", 0);
        badCode("abcd", 0);
        badNumbers(-1, 1, 1, 0);
        badNumbers(6, 1, 1, 0);
        badNumbers(0, 0, 1, 0);
        badNumbers(0, 10, 1, 0);
        badNumbers(0, 1, 0, 0);
        badNumbers(0, 1, 100, 0);
        badNumbers(0, 1, 1, -1);
        badNumbers(0, 1, 1, 10001);
        badNumbers(MOST, LEAST, MOST, LEAST);
        is("stones", 2, x.stones());
        fresh();
        comeMany(10);
        badCode("b", 0);
        badCode("k9", 1);
        badNumbers(6, 1, 1, 0);
        put("k");
        noState("stone", () -> x.stone(0, 1, 1, 0));
        is("errorPosition", -1, x.errorPosition());
        is("tape is empty", 0, x.clearTape());
        is("stones", 10, x.stones());
    }

    private static void p6() {
        fresh();
        for (int i = 0; i < 10; i++) {
            is("stones", i, x.stones());
            come("" + (char) ('z' - i), 0, 1, 1, 0);
        }
        is("stones", 10, x.stones());
    }

    private static void p7() {
        fresh();
        come("b", 5, 9, 99, 10000);
        come("aa", 0, 1, 1, 0);
        come("a", 1, 2, 3, 4);
        come("ab", 2, 3, 4, 5);
        int[][] due = {{5, 9, 99, 10000, -1, 3}, {0, 1, 1, 0, -1, 1}, {1, 2, 3, 4, -1, 0}, {2, 3, 4, 5, -1, 2}};
        for (int stone = 0; stone < 4; stone++) {
            for (int what = 0; what < 6; what++) {
                is("stoneOf " + stone + " " + what, due[stone][what], x.stoneOf(stone, what));
            }
        }
        x.lay(2, 3);
        is("stoneOf drawer", 3, x.stoneOf(2, 4));
        noIndex("stoneOf", () -> x.stoneOf(4, 0));
        noIndex("stoneOf", () -> x.stoneOf(-1, 6));
        noArgument("stoneOf", () -> x.stoneOf(0, 6));
        noArgument("stoneOf", () -> x.stoneOf(0, -1));
        noArgument("stoneOf", () -> x.stoneOf(0, LEAST));
    }

    private static void p8() {
        fresh();
        comeMany(3);
        is("scratch", 0, x.scratch(0, 1));
        is("scratch again", 1, x.scratch(0, 1));
        noIndex("scratch", () -> x.scratch(3, 3));
        noIndex("scratch", () -> x.scratch(0, 3));
        noIndex("scratch", () -> x.scratch(-1, 0));
        noArgument("scratch", () -> x.scratch(1, 1));
        for (int i = 2; i < 40; i++) {
            is("scratch", i, x.scratch(1, 2));
        }
        noArgument("scratch", () -> x.scratch(1, 1));
        noIndex("scratch", () -> x.scratch(MOST, 1));
        noState("scratch", () -> x.scratch(1, 2));
        is("unscratch", 39, x.unscratch(39));
        is("scratch", 39, x.scratch(0, 2));
    }

    private static void p9() {
        fresh();
        comeMany(3);
        x.scratch(0, 1);
        x.scratch(1, 2);
        x.scratch(2, 0);
        is("ring", 3, x.ring());
        is("unscratch", 2, x.unscratch(0));
        is("harder", 1, x.harder(1, 0));
        is("unscratch: the numbers are less by 1", 1, x.unscratch(1));
        is("harder", 3, x.harder(1, 2));
        noIndex("unscratch", () -> x.unscratch(1));
        noIndex("unscratch", () -> x.unscratch(-1));
        is("unscratch", 0, x.unscratch(0));
        noIndex("unscratch", () -> x.unscratch(0));
    }

    private static void p10and11() {
        fresh();
        ringIs();
        comeMany(10);
        ringIs();
        for (int i = 0; i < 9; i++) {
            x.scratch(i, i + 1);
        }
        ringIs();
        x.scratch(9, 0);
        ringIs(0, 1, 2, 3, 4, 5, 6, 7, 8, 9);
        x.scratch(6, 3);
        ringIs(3, 4, 5, 6);
        x.scratch(9, 7);
        ringIs(7, 8, 9);
        x.scratch(2, 1);
        ringIs(1, 2);
        x.undo();
        ringIs(7, 8, 9);
        x.scratch(8, 6);
        ringIs(6, 7, 8);
        fresh();
        comeMany(5);
        x.scratch(0, 3);
        x.scratch(3, 1);
        x.scratch(1, 0);
        ringIs(0, 3, 1);
        x.scratch(0, 2);
        x.scratch(2, 4);
        x.scratch(4, 0);
        ringIs(0, 2, 4);
        x.scratch(2, 1);
        ringIs(0, 2, 1);
    }

    private static void p12() {
        fresh();
        is("orders", 1, x.orders());
        comeMany(1);
        is("orders", 1, x.orders());
        fresh();
        comeMany(10);
        is("orders", 3628800, x.orders());
        x.scratch(3, 7);
        is("orders", 1814400, x.orders());
        x.scratch(3, 7);
        is("orders", 1814400, x.orders());
        x.scratch(7, 3);
        is("orders", 0, x.orders());
        fresh();
        comeMany(4);
        x.scratch(0, 1);
        x.scratch(2, 3);
        is("orders", 6, x.orders());
        x.scratch(1, 2);
        is("orders", 1, x.orders());
        come("e", 0, 1, 1, 0);
        is("orders", 5, x.orders());
        x.undo();
        x.undo();
        is("orders", 6, x.orders());
    }

    private static void p13() {
        fresh();
        comeMany(4);
        x.scratch(2, 0);
        x.scratch(0, 1);
        is("rank", 0, x.rank(2, false));
        is("rank", 1, x.rank(2, true));
        is("rank", 1, x.rank(0, false));
        is("rank", 2, x.rank(0, true));
        is("rank", 2, x.rank(1, false));
        is("rank", 3, x.rank(1, true));
        is("rank", 0, x.rank(3, false));
        is("rank", 3, x.rank(3, true));
        noIndex("rank", () -> x.rank(4, true));
        noIndex("rank", () -> x.rank(-1, false));
        x.scratch(1, 2);
        is("rank", -1, x.rank(3, true));
        is("rank", -1, x.rank(3, false));
    }

    private static void p14() {
        fresh();
        comeMany(3);
        x.scratch(0, 1);
        int[][] due = {{2, 1, 0}, {0, 1, 2}, {1, 1, 1}};
        for (int stone = 0; stone < 3; stone++) {
            for (int rank = 0; rank < 10; rank++) {
                is("withRank", rank < 3 ? due[stone][rank] : 0, x.withRank(stone, rank));
            }
        }
        noIndex("withRank", () -> x.withRank(3, 0));
        noIndex("withRank", () -> x.withRank(-1, 10));
        noArgument("withRank", () -> x.withRank(0, 10));
        noArgument("withRank", () -> x.withRank(0, -1));
        x.scratch(1, 0);
        is("withRank", 0, x.withRank(2, 0));
    }

    private static void p15() {
        fresh();
        comeMany(3);
        x.scratch(0, 1);
        is("harder", 3, x.harder(0, 1));
        is("harder", 0, x.harder(1, 0));
        is("harder", 2, x.harder(0, 2));
        is("harder", 1, x.harder(1, 2));
        is("harder", 2, x.harder(2, 1));
        noIndex("harder", () -> x.harder(3, 3));
        noIndex("harder", () -> x.harder(0, -1));
        noArgument("harder", () -> x.harder(2, 2));
        x.scratch(1, 0);
        is("harder", 0, x.harder(0, 1));
    }

    private static void p16() {
        fresh();
        comeMany(4);
        is("shareOf", 1, x.shareOf(0, 1, false));
        is("shareOf", 2, x.shareOf(0, 1, true));
        x.scratch(0, 1);
        is("shareOf", 1, x.shareOf(0, 1, false));
        is("shareOf", 1, x.shareOf(0, 1, true));
        is("shareOf", 0, x.shareOf(1, 0, false));
        is("shareOf", 1, x.shareOf(1, 0, true));
        is("shareOf", 2, x.shareOf(0, 2, false));
        is("shareOf", 3, x.shareOf(0, 2, true));
        noIndex("shareOf", () -> x.shareOf(4, 4, true));
        noIndex("shareOf", () -> x.shareOf(0, -1, true));
        noArgument("shareOf", () -> x.shareOf(3, 3, true));
        x.scratch(1, 0);
        is("shareOf", 0, x.shareOf(2, 3, false));
        is("shareOf", 1, x.shareOf(2, 3, true));
    }

    private static void p17() {
        fresh();
        is("nextTest", -1, x.nextTest(true));
        comeMany(1);
        is("nextTest", -1, x.nextTest(false));
        fresh();
        comeMany(2);
        is("nextTest", 1, x.nextTest(false));
        is("nextTest", 1, x.nextTest(true));
        x.scratch(1, 0);
        is("nextTest", 1, x.nextTest(false));
        is("nextTest", 1, x.nextTest(true));
        fresh();
        comeMany(4);
        is("nextTest", 1, x.nextTest(false));
        is("nextTest", 12, x.nextTest(true));
        x.scratch(0, 1);
        is("nextTest", 23, x.nextTest(false));
        is("nextTest", 6, x.nextTest(true));
        x.scratch(2, 3);
        // Of 6 orders 0 2, 1 3: 0 ahead of 2 in 3.
        is("nextTest", 2, x.nextTest(false));
        is("nextTest", 3, x.nextTest(true));
        x.scratch(1, 0);
        is("nextTest", -1, x.nextTest(false));
        is("nextTest", -1, x.nextTest(true));
    }

    private static void p18() {
        fresh();
        noIndex("orderAt", () -> x.orderAt(0));
        comeMany(5);
        x.scratch(4, 1);
        x.scratch(3, 0);
        int[] due = {2, 3, 0, 4, 1};
        for (int rank = 0; rank < 5; rank++) {
            is("orderAt " + rank, due[rank], x.orderAt(rank));
        }
        noIndex("orderAt", () -> x.orderAt(5));
        noIndex("orderAt", () -> x.orderAt(-1));
        x.scratch(1, 4);
        noIndex("orderAt", () -> x.orderAt(0));
    }

    private static void p19() {
        fresh();
        is("setDrawer", 20, x.setDrawer(0, 99, 999));
        is("setDrawer", 99, x.setDrawer(0, 0, 0));
        is("setDrawer", 0, x.setDrawer(0, 5, 50));
        come("a", 0, 5, 50, 0);
        is("lay", 0, x.lay(0, 0));
        is("setDrawer", 5, x.setDrawer(0, 5, 50));
        noState("setDrawer", () -> x.setDrawer(0, 4, 50));
        noState("setDrawer", () -> x.setDrawer(0, 5, 49));
        is("setDrawer", 20, x.setDrawer(1, 4, 49));
        int[][] bad = {{-1, 0, 0}, {4, 0, 0}, {0, -1, 0}, {0, 100, 0}, {0, 0, -1}, {0, 0, 1000}, {LEAST, MOST, MOST}};
        for (int[] b : bad) {
            noArgument("setDrawer", () -> x.setDrawer(b[0], b[1], b[2]));
        }
    }

    private static void p20() {
        fresh();
        is("part", 0, partOf(1, 2, true));
        is("part", 1, partOf(2, 1, true));
        is("part", 1, partOf(2, 1, false));
        is("part", 0, partOf(1, 2, false));
        is("part", 0, partOf(5, 0, false));
        come("a", 1, 1, 1, 0);
        come("b", 2, 1, 1, 0);
        come("c", 1, 1, 1, 0);
        is("part with itself", 0, partOf(1, 1, true));
        is("lay", 0, x.lay(0, 0));
        is("lay", 3, x.lay(2, 0));
        is("lay", 0, x.lay(1, 0));
        noState("part", () -> partOf(1, 2, true));
        noState("part", () -> partOf(2, 1, true));
        is("part: that they may is never refused", 0, partOf(1, 2, false));
        is("part: one stone of a kind lies there", 0, partOf(2, 2, true));
        is("part", 1, partOf(1, 1, false));
        is("lay", 0, x.lay(2, 0));
        noState("part", () -> partOf(1, 1, true));
        is("part of the last kind", 0, partOf(5, 5, true));
        is("part of the last kind", 1, partOf(5, 5, false));
        noArgument("part", () -> partOf(-1, 0, true));
        noArgument("part", () -> partOf(6, 0, true));
        noArgument("part", () -> partOf(0, -1, true));
        noArgument("part", () -> partOf(0, 6, false));
        x.lay(0, 1);
        noState("part", () -> partOf(1, 2, true));
        x.lay(1, Stonecabinet.NONE);
        is("part: stones in no drawer do not lie together", 0, partOf(1, 2, true));
    }

    private static void p21() {
        fresh();
        come("a", 0, 9, 99, 0);
        come("b", 1, 9, 99, 0);
        come("c", 2, 3, 2, 0);
        come("d", 2, 2, 3, 0);
        is("lay", 0, x.lay(0, 3));
        is("lay", 0, x.lay(1, 3));
        is("lay: size", 1, x.lay(2, 3));
        is("lay: weight", 2, x.lay(3, 3));
        is("stoneOf", -1, x.stoneOf(3, 4));
        x.part(0, 2, true);
        is("lay: size ahead of kinds", 1, x.lay(2, 3));
        is("lay: weight ahead of kinds", 2, x.lay(3, 3));
        x.lay(1, -1);
        is("lay: kinds", 3, x.lay(2, 3));
        is("lay into its own", 0, x.lay(0, 3));
        is("lay", 0, x.lay(2, 0));
        is("lay: it stays where it was", 3, x.lay(2, 3));
        is("stoneOf", 0, x.stoneOf(2, 4));
        is("lay out", 0, x.lay(2, -1));
        is("lay out again", 0, x.lay(2, -1));
        is("stoneOf", -1, x.stoneOf(2, 4));
        noIndex("lay", () -> x.lay(4, 4));
        noIndex("lay", () -> x.lay(-1, 0));
        noArgument("lay", () -> x.lay(0, 4));
        noArgument("lay", () -> x.lay(0, -2));
    }

    private static void p22() {
        fresh();
        come("a", 0, 9, 99, 0);
        come("b", 1, 2, 13, 0);
        come("c", 1, 2, 13, 0);
        x.lay(0, 2);
        x.lay(1, 2);
        is("lies", 2, x.lies(2, 0));
        is("lies", 11, x.lies(2, 1));
        is("lies", 112, x.lies(2, 2));
        is("lies", 0, x.lies(0, 0) + x.lies(1, 1) + x.lies(3, 2));
        noArgument("lies", () -> x.lies(4, 0));
        noArgument("lies", () -> x.lies(-1, 0));
        noArgument("lies", () -> x.lies(0, 3));
        noArgument("lies", () -> x.lies(0, -1));
    }

    private static void p23() {
        fresh();
        is("layAll", 0, x.layAll(false));
        is("layAll", 0, x.layAll(true));
        come("a", 0, 9, 1, 0);
        come("b", 0, 9, 1, 0);
        come("c", 0, 9, 1, 0);
        come("d", 1, 2, 1, 0);
        is("layAll", 0, x.layAll(false));
        drawersAre(0, 0, 1, 0);
        x.lay(0, 1);
        x.lay(1, 2);
        x.lay(2, -1);
        x.lay(3, 3);
        is("layAll: nearest", 0, x.layAll(true));
        drawersAre(1, 2, 0, 3);
        x.lay(2, -1);
        x.setDrawer(0, 2, 200);
        noState("setDrawer", () -> x.setDrawer(3, 1, 200));
        is("layAll: first", 2, x.layAll(false));
        drawersAre(1, 1, 2, 0);
        noState("part", () -> partOf(0, 0, true));
    }

    private static void p23again() {
        fresh();
        come("a", 0, 1, 1, 0);
        come("b", 0, 1, 1, 0);
        come("c", 0, 1, 1, 0);
        is("part", 0, partOf(0, 0, true));
        is("layAll", 0, x.layAll(false));
        drawersAre(0, 1, 2);
        x.lay(0, 3);
        is("layAll: nearest keeps", 0, x.layAll(true));
        drawersAre(3, 1, 2);
        is("layAll: first", 1, x.layAll(false));
        drawersAre(0, 1, 2);
        come("d", 0, 1, 1, 0);
        x.setDrawer(3, 0, 200);
        is("layAll: no laying", -1, x.layAll(false));
        is("layAll: no laying", -1, x.layAll(true));
        drawersAre(0, 1, 2, -1);
        put("d 0 4 1 0;");
        x.join();
        x.lay(2, -1);
        x.setDrawer(2, 3, 200);
        x.setDrawer(3, 3, 200);
        // Only the drawers 0 and 1 hold the stone 3: the stone 0 or 1 must leave its own, and first is that 0 stays.
        is("layAll: nearest of several", 1, x.layAll(true));
        drawersAre(0, 2, 3, 1);
    }

    private static void p23edges() {
        fresh();
        for (int i = 0; i < 10; i++) {
            come("" + (char) ('a' + i), 0, 1, 40, 0);
        }
        is("layAll: 5 of them weigh just 200", 0, x.layAll(false));
        drawersAre(0, 0, 0, 0, 0, 1, 1, 1, 1, 1);
        x.setDrawer(1, 20, 240);
        x.lay(0, 3);
        is("layAll: nearest", 0, x.layAll(true));
        drawersAre(3, 0, 0, 0, 0, 1, 1, 1, 1, 1);
        x.lay(9, 2);
        noState("setDrawer", () -> x.setDrawer(0, 20, 159));
        is("layAll: first", 2, x.layAll(false));
        drawersAre(0, 0, 0, 0, 0, 1, 1, 1, 1, 1);
        for (int drawer = 1; drawer < 4; drawer++) {
            x.setDrawer(drawer, 20, drawer == 1 ? 200 : 0);
        }
        is("layAll: just enough", 0, x.layAll(true));
        put("j 0 1 41 0;");
        noState("join", () -> x.join());
        x.lay(9, -1);
        put("j 0 1 41 0;");
        is("join", 0, x.join());
        is("layAll: too heavy", -1, x.layAll(true));
        x.setDrawer(1, 20, 201);
        is("layAll: just enough", 0, x.layAll(true));
        x.setDrawer(1, 5, 999);
        x.setDrawer(0, 5, 999);
        is("layAll: sizes just enough", 0, x.layAll(false));
        x.lay(9, -1);
        x.setDrawer(1, 4, 999);
        is("layAll: too large", -1, x.layAll(false));
    }

    private static void p24() {
        fresh();
        comeMany(2);
        is("tell", 0, x.tell(0, 19000101, 0));
        is("tell", 1, x.tell(1, 21991231, 6));
        is("tell", 2, x.tell(1, 20000229, 6));
        is("time", 3, x.time());
        int[] bad = {18991231, 22000101, 19000229, 21000229, 20230229, 20240230, 20240431, 20241301, 20240001, 20240100,
            20240132, 0, -20240101, MOST, LEAST};
        for (int date : bad) {
            noArgument("tell " + date, () -> x.tell(0, date, 0));
        }
        noArgument("tell", () -> x.tell(0, 20240101, 7));
        noArgument("tell", () -> x.tell(0, 20240101, -1));
        noIndex("tell", () -> x.tell(2, 0, 7));
        noIndex("tell", () -> x.tell(-1, 20240101, 0));
        for (int i = 3; i < 60; i++) {
            is("tell", i, x.tell(0, 20240101, i % 7));
        }
        noArgument("tell", () -> x.tell(0, 20240230, 0));
        noState("tell", () -> x.tell(0, 20240101, 0));
        is("time", 60, x.time());
        x.takeBack(59);
        noState("tell: what was taken back was told", () -> x.tell(0, 20240101, 0));
    }

    private static void p25() {
        fresh();
        comeMany(1);
        x.tell(0, 20240101, 1);
        x.tell(0, 20240101, 2);
        is("handOn", 2, x.handOn(0, 20240101, 2));
        is("takeBack", 3, x.takeBack(1));
        is("handOn", 1, x.handOn(0, 20240101, 3));
        noState("takeBack", () -> x.takeBack(1));
        noIndex("takeBack", () -> x.takeBack(2));
        noIndex("takeBack", () -> x.takeBack(-1));
        is("takeBack", 4, x.takeBack(0));
        is("handOn", 6, x.handOn(0, 20240101, 4));
        x.undo();
        is("takeBack after undo", 4, x.takeBack(0));
    }

    private static void p26() {
        fresh();
        comeMany(1);
        is("time", 0, x.time());
        x.tell(0, 20240101, 1);
        is("time", 1, x.time());
        x.takeBack(0);
        is("time", 2, x.time());
        noState("takeBack", () -> x.takeBack(0));
        is("time", 2, x.time());
        x.undo();
        is("time", 1, x.time());
    }

    private static void p27() {
        fresh();
        comeMany(2);
        x.tell(0, 20240101, 3);
        x.tell(0, 20240101, 4);
        x.tell(0, 20230101, 0);
        x.takeBack(1);
        int[] due = {6, 3, 4, 4, 3};
        for (int time = 0; time < 5; time++) {
            is("handOn at " + time, due[time], x.handOn(0, 20240101, time));
        }
        is("handOn", 6, x.handOn(0, 20231231, 2));
        is("handOn", 0, x.handOn(0, 20231231, 3));
        is("handOn", 6, x.handOn(0, 20221231, 3));
        is("handOn", 3, x.handOn(0, 21991231, 4));
        is("handOn", 6, x.handOn(1, 20240101, 4));
        noIndex("handOn", () -> x.handOn(2, 0, 9));
        noArgument("handOn", () -> x.handOn(0, 20240101, 5));
        noArgument("handOn", () -> x.handOn(0, 20240101, -1));
        noArgument("handOn", () -> x.handOn(0, 20240631, 0));
    }

    private static void p28() {
        fresh();
        comeMany(2);
        x.tell(0, 20240101, 6);
        is("stays: the same hand", 1, x.stays(0, 1));
        x.tell(0, 20240201, 1);
        x.tell(0, 20240301, 1);
        is("stays", 2, x.stays(0, 3));
        x.tell(0, 20240215, 2);
        is("stays", 4, x.stays(0, 4));
        is("stays", 2, x.stays(0, 3));
        is("stays", 1, x.stays(0, 0));
        x.takeBack(3);
        is("stays", 2, x.stays(0, 5));
        is("stays", 4, x.stays(0, 4));
        is("stays", 1, x.stays(1, 5));
        noIndex("stays", () -> x.stays(2, 9));
        noArgument("stays", () -> x.stays(0, 6));
        noArgument("stays", () -> x.stays(0, -1));
    }

    private static void p29() {
        fresh();
        comeMany(1);
        is("stayAt", 6, x.stayAt(0, 0, 0));
        is("stayAt", -1, x.stayAt(0, 0, 1));
        is("stayAt", -1, x.stayAt(0, 0, 2));
        x.tell(0, 19000101, 0);
        x.tell(0, 20240301, 2);
        x.tell(0, 20230301, 3);
        x.tell(0, 20230501, 4);
        x.tell(0, 20230601, 4);
        int[][] due = {{6, -1, 18991231}, {0, 19000101, 20230228}, {3, 20230301, 20230430}, {4, 20230501, 20240229},
            {2, 20240301, -1}};
        for (int stay = 0; stay < 5; stay++) {
            for (int what = 0; what < 3; what++) {
                is("stayAt " + stay + " " + what, due[stay][what], x.stayAt(0, stay, what));
            }
        }
        x.tell(0, 20220101, 5);
        x.tell(0, 20220201, 1);
        x.tell(0, 20220202, 2);
        x.tell(0, 20220203, 3);
        int[] lasts = {18991231, 20211231, 20220131, 20220201, 20220202, 20230430, 20240229, -1};
        for (int stay = 0; stay < 8; stay++) {
            is("stayAt " + stay, lasts[stay], x.stayAt(0, stay, 2));
        }
        for (int i = 0; i < 4; i++) {
            x.undo();
        }
        noIndex("stayAt", () -> x.stayAt(1, 0, 0));
        noIndex("stayAt", () -> x.stayAt(0, 5, 3));
        noIndex("stayAt", () -> x.stayAt(0, -1, 0));
        noArgument("stayAt", () -> x.stayAt(0, 4, 3));
        noArgument("stayAt", () -> x.stayAt(0, 4, -1));
    }

    private static void p30() {
        fresh();
        comeMany(1);
        is("away: all days", 109573, x.away(0, 19000101, 21991231));
        x.tell(0, 20240110, 0);
        x.tell(0, 20240120, 5);
        is("away", 9, x.away(0, 20240101, 20240119));
        is("away", 0, x.away(0, 20240110, 20240119));
        is("away", 1, x.away(0, 20240109, 20240109));
        is("away", 1, x.away(0, 20240110, 20240120));
        is("away", 109563, x.away(0, 19000101, 21991231));
        x.undo();
        x.undo();
        int[] lengths = {31, 28, 31, 30, 31, 30, 31, 31, 30, 31, 30, 31};
        for (int month = 1; month <= 12; month++) {
            int first = 20230000 + 100 * month + 1;
            int last = first + lengths[month - 1] - 1;
            is("away in month " + month, lengths[month - 1], x.away(0, first, last));
            is("away over its end", 2, x.away(0, last, month == 12 ? 20240101 : first + 100));
            noArgument("no such day " + (last + 1), () -> x.away(0, 20220101, last + 1));
        }
        is("away in a leap year", 2, x.away(0, 20240228, 20240229));
        is("away in a leap year", 3, x.away(0, 20240228, 20240301));
        is("away in 1900", 365, x.away(0, 19000101, 19001231));
        is("away in 1904", 366, x.away(0, 19040101, 19041231));
        is("away in 2000", 366, x.away(0, 20000101, 20001231));
        is("away in 2001", 365, x.away(0, 20010101, 20011231));
        is("away in 2100", 365, x.away(0, 21000101, 21001231));
        is("away in 2101", 365, x.away(0, 21010101, 21011231));
        badDates((from, to) -> x.away(0, from, to));
        noIndex("away", () -> x.away(1, 0, 0));
    }

    private interface OfDates {
        long ask(int from, int to);
    }

    private static void badDates(OfDates call) {
        noArgument("to ahead of from", () -> call.ask(20240102, 20240101));
        noArgument("no from", () -> call.ask(20230229, 20240101));
        noArgument("no to", () -> call.ask(20240101, 20240631));
        noArgument("from too early", () -> call.ask(18991231, 20240101));
        noArgument("to too late", () -> call.ask(20240101, 22000101));
    }

    private static void p31() {
        fresh();
        come("a", 0, 1, 1, 10000);
        come("b", 0, 1, 1, 333);
        is("fee", 0, x.fee(0, 19000101, 21991231));
        x.tell(0, 19000101, 5);
        is("fee: more than an int", 5478650000L, x.fee(0, 19000101, 21991231) * 1000);
        x.tell(1, 20240101, 1);
        is("fee: the whole sum is rounded", 0, x.fee(1, 20240101, 20240103));
        is("fee", 1, x.fee(1, 20240101, 20240104));
        x.tell(1, 20240105, 0);
        x.tell(1, 20240107, 4);
        x.tell(1, 20240109, 6);
        is("fee: 4 times 1 and 2 times 4", 3, x.fee(1, 20231201, 20250101));
        badDates((from, to) -> x.fee(0, from, to));
        noIndex("fee", () -> x.fee(2, 0, 0));
    }

    private static void p32() {
        fresh();
        is("inHand", 0, x.inHand(6, 20240101));
        comeMany(3);
        is("inHand", 3, x.inHand(6, 20240101));
        x.tell(1, 20240101, 0);
        x.tell(2, 20240102, 0);
        is("inHand", 1, x.inHand(0, 20240101));
        is("inHand", 2, x.inHand(0, 20240102));
        x.takeBack(0);
        is("inHand", 1, x.inHand(0, 20240102));
        noArgument("inHand", () -> x.inHand(7, 20240101));
        noArgument("inHand", () -> x.inHand(-1, 20240101));
        noArgument("inHand", () -> x.inHand(0, 20240132));
    }

    private static void p33() {
        fresh();
        comeMany(2);
        is("setLight", 5000, x.setLight(0, 100000));
        is("setLight", 100000, x.setLight(0, 400000 / 4));
        x.show(0, 20231231, 368, 10);
        is("light", 3660, x.light(0, 2024));
        noState("setLight", () -> x.setLight(0, 3659));
        is("setLight", 100000, x.setLight(0, 3660));
        is("setLight of another", 5000, x.setLight(1, 0));
        noArgument("setLight", () -> x.setLight(0, -1));
        noArgument("setLight", () -> x.setLight(0, 100001));
        noIndex("setLight", () -> x.setLight(2, -1));
    }

    private static void p34() {
        fresh();
        comeMany(2);
        is("show", 0, x.show(0, 20240101, 5, 1000));
        noState("show", () -> x.show(0, 20240101, 1, 1));
        noState("show", () -> x.show(0, 20231231, 2, 1));
        is("show", 1, x.show(0, 20231231, 1, 1000));
        is("show", 2, x.show(1, 20231231, 400, 13));
        is("light", 13 + 366 * 13 + 33 * 13, x.light(1, 2023) + x.light(1, 2024) + x.light(1, 2025));
        is("show: overlapping", 3, x.show(1, 20240601, 24, 10));
        noState("show", () -> x.show(1, 20250101, 400, 13));
        int[][] bad = {{20240230, 1, 1}, {20240101, 0, 1}, {20240101, 401, 1}, {20240101, 1, 0}, {20240101, 1, 1001},
            {21991231, 2, 1}, {21990101, 366, 1}, {MOST, MOST, MOST}, {20240101, LEAST, 1}};
        for (int[] b : bad) {
            noArgument("show", () -> x.show(0, b[0], b[1], b[2]));
        }
        noIndex("show", () -> x.show(2, 0, 0, 0));
        is("show", 4, x.show(0, 21990101, 365, 1));
        for (int i = 5; i < 20; i++) {
            is("show", i, x.show(0, 20300101, 1, 1));
        }
        noArgument("show", () -> x.show(0, 21991231, 2, 1));
        noState("show", () -> x.show(0, 20300101, 1, 1));
    }

    private static void p35() {
        fresh();
        comeMany(2);
        x.show(0, 20241230, 4, 7);
        x.show(0, 20250101, 1, 100);
        is("light", 0, x.light(0, 2023));
        is("light", 14, x.light(0, 2024));
        is("light", 114, x.light(0, 2025));
        is("light", 0, x.light(1, 2024));
        is("light", 0, x.light(0, 1900) + x.light(0, 2199));
        noArgument("light", () -> x.light(0, 1899));
        noArgument("light", () -> x.light(0, 2200));
        noIndex("light", () -> x.light(2, 0));
    }

    private static void p36() {
        fresh();
        comeMany(1);
        is("mostDays", 400, x.mostDays(0, 20240101, 1));
        is("mostDays", 5, x.mostDays(0, 20240101, 1000));
        is("mostDays", 7, x.mostDays(0, 20241230, 1000));
        is("mostDays", 1, x.mostDays(0, 21991231, 1));
        is("mostDays", 365, x.mostDays(0, 21990101, 1));
        x.setLight(0, 366);
        is("mostDays: a leap year", 400, x.mostDays(0, 20240101, 1));
        x.setLight(0, 365);
        is("mostDays", 365, x.mostDays(0, 20240101, 1));
        x.setLight(0, 0);
        is("mostDays", 0, x.mostDays(0, 20240101, 1));
        x.setLight(0, 20);
        for (int i = 0; i < 20; i++) {
            x.show(0, 20300101, 1, 1);
        }
        is("mostDays also when 20 are told", 20, x.mostDays(0, 20240101, 1));
        is("mostDays into a full year", 1, x.mostDays(0, 20291231, 1));
        noArgument("mostDays", () -> x.mostDays(0, 20240101, 0));
        noArgument("mostDays", () -> x.mostDays(0, 20240101, 1001));
        noArgument("mostDays", () -> x.mostDays(0, 20240100, 1));
        noIndex("mostDays", () -> x.mostDays(1, 0, 0));
    }

    private static void p37() {
        fresh();
        int[][] bad = {{-1, 0, 1}, {5, 0, 1}, {0, -1, 1}, {0, 6, 1}, {0, 0, -1}, {0, 0, 6}, {0, 3, 3}, {MOST, 0, 1}};
        for (int i = 0; i < 8; i++) {
            is("offer", i, x.offer(i % 5, i % 6, (i + 1) % 6));
            for (int[] b : bad) {
                noArgument("offer", () -> x.offer(b[0], b[1], b[2]));
            }
        }
        noArgument("offer", () -> x.offer(0, 1, 1));
        noState("offer", () -> x.offer(0, 1, 2));
    }

    private static void p38() {
        fresh();
        is("clearOffers", 0, x.clearOffers());
        x.offer(0, 0, 1);
        x.offer(1, 1, 0);
        is("clearOffers", 2, x.clearOffers());
        is("plan", 0, x.plan());
        noIndex("getsFrom", () -> x.getsFrom(0));
        is("undo", 3, x.undo());
        is("plan", 2, x.plan());
        x.clearOffers();
        is("offer", 0, x.offer(0, 0, 1));
    }

    private static void p39to41() {
        fresh();
        planIs(0);
        x.offer(0, 0, 1);
        planIs(0, -1);
        x.offer(0, 1, 0);
        planIs(0, -1, -1);
        x.offer(1, 1, 0);
        planIs(1, 2, -1, 0);
        x.offer(1, 0, 1);
        planIs(2, 2, 3, 0, 1);
        x.offer(2, 1, 0);
        planIs(2, 2, 3, 0, 1, -1);
        x.clearOffers();
        x.offer(0, 0, 1);
        x.offer(1, 1, 2);
        x.offer(2, 2, 0);
        planIs(1, 1, 2, 0);
        x.offer(3, 1, 0);
        // The ring of 3 has more offers than that of 0 and 3.
        planIs(1, 1, 2, 0, -1);
        x.clearOffers();
        for (int i = 0; i < 8; i++) {
            x.offer(i % 2, i % 2, 1 - i % 2);
        }
        planIs(4, 1, 0, 3, 2, 5, 4, 7, 6);
        x.clearOffers();
        x.offer(0, 2, 1);
        x.offer(1, 1, 2);
        x.offer(0, 2, 1);
        x.offer(2, 1, 2);
        x.offer(3, 1, 3);
        planIs(2, 1, 0, 3, 2, -1);
    }

    private static void badText(String text, int position) {
        put(text);
        int before = x.checksum();
        noArgument("join " + text, () -> x.join());
        is("errorPosition of " + text, position, x.errorPosition());
        is("tape is empty", 0, x.clearTape());
        is("nothing is different", before, x.checksum());
    }

    private static void p42() {
        fresh();
        is("join of nothing", 0, x.join());
        is("errorPosition", -1, x.errorPosition());
        put(" \n ");
        is("join of blanks", 0, x.join());
        come("m", 3, 4, 50, 600);
        put("z 1 2 3 4;m 1 9 49 00700;\nabcd5 9 99 10000 ; aa 0 1 1 0;");
        is("join", 3, x.join());
        is("tape is empty", 0, x.clearTape());
        is("written", "aa 0 1 1 0;abcd 5 9 99 10000;m 3 9 50 700;z 1 2 3 4;", written());
        is("numbers go by codes", 1, x.stoneOf(1, 2));
        is("numbers go by codes", 99, x.stoneOf(2, 2));
        is("numbers go by codes", 3, x.stoneOf(3, 2));
        is("a new one lies in no drawer", -1, x.stoneOf(1, 4));
        is("a new one may have 5000", 5000, x.setLight(1, 1));
        badText("b", 1);
        badText("b 1 2 3 4", 9);
        badText("b 1 2 3 4  ", 11);
        badText("b 1 2 3 ;", 8);
        badText("b 1 2 3 4 5;", 10);
        badText("b 6 2 3 4;", 2);
        badText("b 1 0 3 4;", 4);
        badText("b 1 10 3 4;", 4);
        badText("b 1 2 0 4;", 6);
        badText("b 1 2 100 4;", 6);
        badText("b 1 2 3 10001;", 8);
        badText("b 1 2 3 000001;", 8);
        badText(" bbbbb 1 2 3 4;", 1);
        badText("B 1 2 3 4;", 0);
        badText("b\t1 2 3 4;", 1);
        badText("b 1 2 3 4;;", 10);
        badText("b 1 2 3 4;\nb 9 9 9 9;", 11);
        badText("c 1 2 3 4;b 1 2 3 4;c", 20);
        badText("b 1 2 3c 4;", 7);
        badText("1", 0);
        badText("b -1 2 3 4;", 2);
        badText("b 1 2 3 4;\u00e9", 10);
        badText("b 1 2 3 99999999999999999999;", 8);
    }

    private static void p42refused() {
        fresh();
        comeMany(9);
        put("a 5 9 99 9;j 0 1 1 1;");
        is("join", 1, x.join());
        put("a 5 9 99 9;k 0 1 1 1;");
        noState("join: 11 stones", () -> x.join());
        is("errorPosition", -1, x.errorPosition());
        is("tape is empty", 0, x.clearTape());
        fresh();
        come("a", 0, 9, 90, 0);
        come("b", 1, 9, 90, 0);
        x.lay(0, 0);
        x.lay(1, 0);
        x.setDrawer(0, 18, 190);
        x.part(2, 1, true);
        put("a 0 1 99 5;b 0 9 91 0;");
        is("join", 0, x.join());
        put("b 0 9 92 0;c 0 1 1 1;");
        noState("join: too heavy", () -> x.join());
        x.setDrawer(0, 17 + 1, 999);
        put("a 2 1 1 1;");
        noState("join: kinds", () -> x.join());
        is("written", "a 0 9 99 5;b 1 9 91 0;", written());
        x.lay(0, 1);
        put("a 2 1 1 1;");
        is("join", 0, x.join());
        fresh();
        come("a", 0, 4, 1, 0);
        x.setDrawer(2, 4, 4);
        x.lay(0, 2);
        put("a 0 5 1 0;");
        noState("join: too large", () -> x.join());
        is("undo", 2, x.undo());
    }

    private static void p42long() {
        fresh();
        StringBuilder text = new StringBuilder();
        for (int i = 0; i < 33; i++) {
            text.append((char) ('a' + i % 26)).append(i < 26 ? "" : "a").append("0 1 1 0;");
        }
        put(text.substring(0, 300));
        noArgument("join", () -> x.join());
        is("errorPosition", 300, x.errorPosition());
        put(text.substring(0, 26 * 9));
        noState("join of 26", () -> x.join());
        // No text has more than 32 entries: 26 codes of one letter, and longer ones.
        String most = text.substring(0, 26 * 9 + 5 * 10);
        badText(most + "ea0 1 1 0;", 284);
        badText(most + "a0 1 1 0;", 284);
        put(most + "fa0 1 1 0;");
        noState("join of 32", () -> x.join());
        put(text.substring(0, 90));
        is("join of 10", 10, x.join());
        put(text.substring(0, 90));
        is("join again", 0, x.join());
    }

    private static void p43and44() {
        fresh();
        is("write", 0, x.write());
        noIndex("writtenAt", () -> x.writtenAt(0));
        come("qu", 0, 3, 20, 1000);
        come("abcd", 5, 9, 99, 10000);
        noIndex("writtenAt: before it is written", () -> x.writtenAt(0));
        is("write", 33, x.write());
        is("written", "abcd 5 9 99 10000;qu 0 3 20 1000;", written());
        come("a", 0, 1, 1, 0);
        is("writtenAt stays", 'b', x.writtenAt(1));
        noIndex("writtenAt", () -> x.writtenAt(33));
        noIndex("writtenAt", () -> x.writtenAt(-1));
        noIndex("writtenAt", () -> x.writtenAt(MOST));
        is("write", 43, x.write());
        is("undo: writing is no change", 2, x.undo());
        is("writtenAt stays after undo", ' ', x.writtenAt(1));
        is("write", 33, x.write());
        noIndex("writtenAt", () -> x.writtenAt(33));
        fresh();
        for (int i = 0; i < 10; i++) {
            come("zzz" + (char) ('a' + i), 5, 9, 99, 10000);
        }
        is("write", 180, x.write());
        is("writtenAt", ';', x.writtenAt(179));
    }

    private static void p45() {
        fresh();
        is("undo", -1, x.undo());
        comeMany(10);
        for (int i = 0; i < 10; i++) {
            x.scratch(0, 1 + i % 9);
        }
        for (int left = 14; left >= 0; left--) {
            is("undo", left, x.undo());
        }
        is("undo: no more than 15", -1, x.undo());
        is("stones", 5, x.stones());
        is("orders", 120, x.orders());
        x.scratch(1, 0);
        is("undo", 0, x.undo());
        is("undo", -1, x.undo());
    }

    private static void p45older() {
        fresh();
        comeMany(1);
        for (int i = 0; i < 16; i++) {
            x.setLight(0, i);
        }
        is("undo", 14, x.undo());
        is("undo", 13, x.undo());
        x.setLight(0, 99);
        for (int left = 13; left >= 0; left--) {
            is("undo", left, x.undo());
        }
        is("undo", -1, x.undo());
        is("setLight: an older one stays", 0, x.setLight(0, 0));
    }

    private static void p45each() {
        fresh();
        comeMany(2);
        x.undo();
        comeMany(0);
        come("b", 1, 2, 3, 4);
        Runnable[] changes = {
            () -> x.scratch(0, 1), () -> x.unscratch(0), () -> x.setDrawer(0, 20, 200), () -> x.part(0, 0, false),
            () -> x.lay(0, 0), () -> x.layAll(true), () -> x.tell(0, 20240101, 6), () -> x.takeBack(0),
            () -> x.setLight(0, 5000), () -> x.show(0, 20240101, 1, 1), () -> x.offer(0, 0, 1), () -> x.clearOffers(),
            () -> x.join()};
        for (int i = 0; i < changes.length; i++) {
            changes[i].run();
        }
        // 2 stones and 13 changes, each of which counts, also if nothing is different.
        is("undo", 14, x.undo());
        for (int left = 13; left >= 1; left--) {
            is("undo", left, x.undo());
        }
        is("stones", 1, x.stones());
        is("undo", 0, x.undo());
        is("stones", 0, x.stones());
    }

    private static void p45what() {
        fresh();
        come("a", 0, 9, 1, 0);
        int before = x.checksum();
        x.setDrawer(1, 1, 1);
        is("lay that cannot be", 1, x.lay(0, 1));
        is("undo of it", 2, x.undo());
        for (int drawer = 0; drawer < 4; drawer++) {
            x.setDrawer(drawer, 1, 1);
        }
        is("layAll that cannot be", -1, x.layAll(false));
        is("undo of it", 6, x.undo());
        noState("show", () -> x.show(0, 20240101, 10, 1000));
        noIndex("lay", () -> x.lay(1, 0));
        put("b");
        is("append is no change", 5, x.undo());
        is("setDrawer was undone", 20, x.setDrawer(3, 20, 200));
        is("the tape stays", 1, x.clearTape());
        is("clearTape is no change", 5, x.undo());
        x.orders();
        x.write();
        x.errors();
        is("questions are no changes", 4, x.undo());
        is("checksum", before, x.checksum());
    }

    private static void p46() {
        fresh();
        is("checksum", 17, x.checksum());
        come("a", 1, 2, 3, 4);
        is("checksum", 17 * 31 + 10 - 1, x.checksum());
        x.lay(0, 3);
        is("checksum", 17 * 31 + 10 + 3, x.checksum());
        come("b", 5, 9, 99, 10000);
        is("checksum", (17 * 31 + 13) * 31 + 10113 - 1, x.checksum());
        fresh();
        int due = 17;
        for (int i = 0; i < 10; i++) {
            come("" + (char) ('a' + i), 5, 9, 99, 10000);
            due = 31 * due + 10112;
        }
        is("checksum: it wraps", due, x.checksum());
    }

    private static void p47() {
        fresh();
        is("meanValue", (Object) 0.0, (Object) x.meanValue());
        come("a", 0, 1, 1, 1);
        is("meanValue", (Object) 1.0, (Object) x.meanValue());
        come("b", 0, 1, 1, 0);
        come("c", 0, 1, 1, 0);
        is("meanValue", (Object) (1.0 / 3.0), (Object) x.meanValue());
    }

    private static void p48() {
        fresh();
        is("laidShare", (Object) 0.0f, (Object) x.laidShare());
        comeMany(3);
        is("laidShare", (Object) 0.0f, (Object) x.laidShare());
        x.lay(1, 3);
        is("laidShare", (Object) (1.0f / 3.0f), (Object) x.laidShare());
        x.layAll(false);
        is("laidShare", (Object) 1.0f, (Object) x.laidShare());
    }

    private static void p49() {
        fresh();
        is("errors", 0, x.errors());
        comeMany(4);
        x.scratch(0, 1);
        x.layAll(false);
        x.tell(0, 19000101, 1);
        x.tell(0, 20240301, 2);
        x.tell(0, 20230301, 3);
        x.show(0, 20231231, 400, 12);
        is("errors", 0, x.errors());
        x.scratch(1, 0);
        is("errors: a ring", 0, x.errors());
        is("errors is a question", 10, x.undo());
        is("errors", 0, x.errors());
    }

    private static void apart() {
        Stonecabinet one = new Stonecabinet();
        Stonecabinet other = new Stonecabinet();
        one.offer(0, 0, 1);
        one.part(0, 1, true);
        is("another object is untouched", (Object) false, (Object) other.part(0, 1, false));
        is("another object is untouched", 0, other.clearOffers());
    }

    public static void main(String[] args) {
        Runnable[] tests = {
            () -> p1(), () -> p2(), () -> p3(), () -> p4(), () -> p5(), () -> p6(), () -> p7(), () -> p8(), () -> p9(),
            () -> p10and11(), () -> { }, () -> p12(), () -> p13(), () -> p14(), () -> p15(), () -> p16(), () -> p17(),
            () -> p18(), () -> p19(), () -> p20(), () -> p21(), () -> p22(), () -> { p23(); p23again(); p23edges(); }, () -> p24(),
            () -> p25(), () -> p26(), () -> p27(), () -> p28(), () -> p29(), () -> p30(), () -> p31(), () -> p32(),
            () -> p33(), () -> p34(), () -> p35(), () -> p36(), () -> p37(), () -> p38(), () -> p39to41(), () -> { },
            () -> { }, () -> { p42(); p42refused(); p42long(); }, () -> p43and44(), () -> { },
            () -> { p45(); p45older(); p45each(); p45what(); }, () -> p46(), () -> p47(), () -> p48(),
            () -> { p49(); apart(); }};
        for (int i = 0; i < tests.length; i++) {
            about = "promise " + (i + 1);
            tests[i].run();
        }
        endTests();
    }
}
