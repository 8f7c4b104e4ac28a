/** The boundary cases of catalogues: promises 42 to 44, and term 7. */
final class CatalogueBoundaries extends Boundaries {
    static void all() {
        grammar();
        positions();
        joining();
        refusals();
        writing();
    }

    private static void good(String text, int due) {
        put(text);
        is("join of '" + text + "'", due, x.join());
        is("errorPosition of '" + text + "'", -1, x.errorPosition());
        is("the tape behind '" + text + "'", 0, x.clearTape());
    }

    private static void bad(String text, int position) {
        put(text);
        noArgument("join of '" + text + "'", () -> x.join());
        is("errorPosition of '" + text + "'", position, x.errorPosition());
        is("the tape behind '" + text + "'", 0, x.clearTape());
    }

    private static void refused(String text) {
        put(text);
        noState("join of '" + text + "'", () -> x.join());
        is("errorPosition of '" + text + "'", -1, x.errorPosition());
        is("the tape behind '" + text + "'", 0, x.clearTape());
    }

    private static void grammar() {
        test("Terms 7", "A catalogue is told as a text on the tape: text = { CODE NUMBER NUMBER NUMBER NUMBER \";\" }, the "
            + "numbers being kind, size, weight and value", () -> {
                good("", 0);
                good("a 1 2 3 4;", 1);
                good("b 1 2 3 4;c 1 2 3 4;d 1 2 3 4;", 3);
                is("kind", 1, x.stoneOf(0, 0));
                is("size", 2, x.stoneOf(0, 1));
                is("weight", 3, x.stoneOf(0, 2));
                is("value", 4, x.stoneOf(0, 3));
                bad(";", 0);
                bad("e;", 1);
                bad("e 1;", 3);
                bad("e 1 2;", 5);
                bad("e 1 2 3;", 7);
                bad("e 1 2 3 4 5;", 10);
                bad("e e 1 2 3 4;", 2);
                bad("e 1 e", 4);
                bad("e 1 2 e", 6);
                bad("e 1 2 3 e", 8);
                bad("e 1 2 3 4 e", 10);
                bad("1 e", 0);
                bad("e 1 2 3 4;;", 10);
                bad("e 1 2 3 4; 1", 11);
                is("stones", 4, x.stones());
            });
        test("Terms 7", "a CODE is a maximal run of 1 to 4 letters a to z", () -> {
            good("a 0 1 1 0;z 0 1 1 0;aaaa 0 1 1 0;zzzz 0 1 1 0;", 4);
            bad("aaaaa 0 1 1 0;", 0);
            bad("b 0 1 1 0;ccccc 0 1 1 0;", 10);
            bad("b" + "c".repeat(299), 0);
            bad("A 0 1 1 0;", 0);
            bad("`", 0);
            bad("{", 0);
            bad("b` 0 1 1 0;", 1);
            bad("b{ 0 1 1 0;", 1);
            bad("bC 0 1 1 0;", 1);
            is("stones", 4, x.stones());
        });
        test("Terms 7", "a NUMBER a maximal run of 1 to 5 digits, in its range", () -> {
            good("a 00000 00001 00001 00000;b 00005 00009 00099 10000;", 2);
            is("written", "a 0 1 1 0;b 5 9 99 10000;", written());
            bad("c 000000 1 1 0;", 2);
            bad("c 0 000001 1 0;", 4);
            bad("c 0 1 000001 0;", 6);
            bad("c 0 1 1 000000;", 8);
            bad("c 0 1 1 4294967296;", 8);
            bad("c 0 1 1 18446744073709551616;", 8);
            bad("c " + "0".repeat(298), 2);
            bad("c 0 1 1 /;", 8);
            bad("c 0 1 1 :;", 8);
            bad("c 0 1 1 0/;", 9);
            bad("c 0 1 1 0:;", 9);
            bad("c 0 1 1 -1;", 8);
            bad("c 0 1 1 +1;", 8);
        });
        test("Terms 7", "in its range", () -> {
            good("a 0 1 1 0;b 5 9 99 10000;", 2);
            bad("c 6 1 1 0;", 2);
            bad("c 99999 1 1 0;", 2);
            bad("c 0 0 1 0;", 4);
            bad("c 0 10 1 0;", 4);
            bad("c 0 99999 1 0;", 4);
            bad("c 0 1 0 0;", 6);
            bad("c 0 1 100 0;", 6);
            bad("c 0 1 99999 0;", 6);
            bad("c 0 1 1 10001;", 8);
            bad("c 0 1 1 99999;", 8);
        });
        test("Terms 7", "The bytes 32 and 10 stand between them, and may stand ahead of, between and behind all", () -> {
            good(" ".repeat(300), 0);
            good("\n".repeat(300), 0);
            good(" \n a \n 1 \n 2 \n 3 \n 4 \n ; \n ", 1);
            good("\nb\n1\n2\n3\n4\n;\n", 1);
            good("c 1 2 3 4;d 1 2 3 4 ;", 2);
            good(" ".repeat(290) + "e 1 2 3 4;", 1);
            good("f 1 2 3 4;" + "\n".repeat(290), 1);
            good("g" + " ".repeat(291) + "1 2 3 4;", 1);
            bad("h\t1 2 3 4;", 1);
            bad("h\r1 2 3 4;", 1);
            bad("h\u000b1 2 3 4;", 1);
            bad("\u001fh 1 2 3 4;", 0);
            bad("h!1 2 3 4;", 1);
            bad("h 1 2 3 4;\t", 10);
            bad("h 1 2 3 4;\u00a0", 10);
            bad("h 1 23 4;", 4);
        });
        test("Terms 7", "between a CODE and a NUMBER behind it none is needed", () -> {
            good("a1 2 3 4;", 1);
            good("bbbb1 2 3 4;", 1);
            bad("c1 2 3c 4;", 6);
            bad("ccccc1 2 3 4;", 0);
        });
    }

    private static void positions() {
        test("Terms 7", "Reading stops at the first token that does not fit: it is no token (as is a longer run), the grammar "
            + "does not allow it there, a NUMBER is out of range, or a CODE stood ahead in the text already.", () -> {
                come("z", 0, 1, 1, 0);
                bad("a 0 1 1 0;aaaaa", 10);
                bad("a 0 1 1 0;a 0 1 1 0;", 10);
                bad("a 0 1 1 0;b 0 1 1 0;\n a", 22);
                bad("b 0 1 1 0;a 0 1 1 0;b 9", 20);
                bad("a 9 1 1 0;a 0 1 1 0;", 2);
                bad("a 0 1 1 0;? a", 10);
                bad("a 0 1 ? 100000", 6);
                bad("a 6 0 0 10001 a", 2);
                bad("a 0 0 100 10001", 4);
                bad("a 0 1 100 10001", 6);
                bad("a 0 1 99 10001", 9);
                bad("a aaaaa", 2);
                is("stones", 1, x.stones());
                good("z 0 1 1 0;aa 0 1 1 0;a 0 1 1 0;", 2);
                good("z 0 1 1 0;", 0);
            });
        test("Terms 7", "The error position is the index of its first byte", () -> {
            bad("?", 0);
            bad("\u00e9", 0);
            bad("\u0001", 0);
            bad("  \n?", 3);
            bad(" ".repeat(299) + "?", 299);
            bad(" ".repeat(295) + "abcde", 295);
            bad("a 0 1 1 0" + " ".repeat(285) + "000000", 294);
            bad("a 0  11 ", 5);
            bad("a 0  10 ", 5);
        });
        test("Terms 7", "or the length of the text if the text ends too early", () -> {
            bad("a", 1);
            bad("aaaa", 4);
            bad("a ", 2);
            bad("a 0", 3);
            bad("a 0 1", 5);
            bad("a 0 1 1", 7);
            bad("a 0 1 1 0", 9);
            bad("a 0 1 1 0 \n", 11);
            bad("a 0 1 1 0;b", 11);
            bad("a" + " ".repeat(299), 300);
            bad("a 0 1 1 0" + "\n".repeat(291), 300);
            is("stones", 0, x.stones());
        });
    }

    private static String entries(int count) {
        StringBuilder text = new StringBuilder();
        for (int i = 0; i < count; i++) {
            text.append((char) ('a' + i % 26)).append(i < 26 ? "" : "a").append("0 1 1 0;");
        }
        return text.toString();
    }

    private static void joining() {
        test("Promise 42", "Joins the catalogue on the tape. | Returns how many stones came.", () -> {
            is("join of an empty tape", 0, x.join());
            good("b 1 2 3 4;", 1);
            good("b 1 2 3 4;", 0);
            good("b 1 2 3 4;a 1 2 3 4;c 1 2 3 4;", 2);
            is("stones", 3, x.stones());
            is("undo: a join by which none came is a change, too", 3, x.undo());
        });
        test("Promise 42", "Throws `IllegalArgumentException` if the text has an error", () -> {
            comeMany(10);
            bad("a 1 9 99 10000;b 1 2 3 4", 24);
            bad("z 0 1 1 0;?", 10);
            is("nothing is joined", "a 0 1 1 100;b 0 1 1 100;c 0 1 1 100;d 0 1 1 100;e 0 1 1 100;f 0 1 1 100;g 0 1 1 100;"
                    + "h 0 1 1 100;i 0 1 1 100;j 0 1 1 100;", written());
        });
        test("Promise 42", "Throws `IllegalStateException` if it is refused", () -> {
            comeMany(10);
            refused("a 5 9 99 10000;z 0 1 1 0;");
            is("nothing is joined", 0, x.stoneOf(0, 0));
            is("stones", 10, x.stones());
            good("a 5 9 99 10000;", 0);
            is("joined", 5, x.stoneOf(0, 0));
        });
        test("Terms 7", "Joining takes each stone of the text whose code no stone has, in the order of codes (as "
            + "texts)", () -> {
                come("m", 0, 1, 1, 0);
                good("zz 1 1 1 1;z 2 1 1 2;aaaa 3 1 1 3;ab 4 1 1 4;m 0 1 1 0;b 5 1 1 5;a 0 1 1 6;aa 1 1 1 7;", 7);
                int[] values = {0, 6, 7, 3, 4, 5, 2, 1};
                for (int stone = 0; stone < 8; stone++) {
                    is("value of " + stone, values[stone], x.stoneOf(stone, 3));
                }
            });
        test("Terms 7", "of a stone that is there already, kind, size, weight and value become the greater one of both, each "
            + "by itself", () -> {
                come("a", 2, 5, 50, 5000);
                good("a 3 4 51 4999;", 0);
                is("written", "a 3 5 51 5000;", written());
                good("a 2 6 50 5001;", 0);
                is("written", "a 3 6 51 5001;", written());
                good("a 0 1 1 0;", 0);
                is("written", "a 3 6 51 5001;", written());
                good("a 5 9 99 10000;", 0);
                is("written", "a 5 9 99 10000;", written());
            });
        test("Terms 7", "the numbers being kind, size, weight and value", () -> {
            good("a 5 9 99 10000;", 1);
            is("a new stone lies in no drawer", -1, x.stoneOf(0, 4));
            is("a new stone is in the hand 6", 6, x.handOn(0, 20240101, 0));
            is("a new stone may have 5000", 5000, x.setLight(0, 0));
        });
    }

    private static void refusals() {
        test("Terms 7", "It is refused if there would be more than 10 stones", () -> {
            good(entries(10), 10);
            refused("k 0 1 1 0;");
            refused("k 0 1 1 0;" + entries(10));
            good(entries(10), 0);
            fresh();
            comeMany(9);
            refused("k 0 1 1 0;l 0 1 1 0;");
            good("l 0 1 1 0;" + entries(9), 1);
            fresh();
            refused(entries(11));
            refused(entries(32));
            is("stones", 0, x.stones());
            bad(entries(32) + "ga0 1 ", 300);
            bad(entries(32) + "ga0 1?", 299);
            bad(entries(32) + "a0 1 1", 294);
            bad(entries(32) + "ea0 1 ", 294);
        });
        test("Terms 7", "or if a drawer would hold what it may not", () -> {
            come("a", 0, 4, 40, 0);
            come("b", 1, 5, 50, 0);
            x.setDrawer(3, 10, 100);
            x.lay(0, 3);
            x.lay(1, 3);
            refused("a 0 6 40 0;");
            refused("a 0 5 40 0;b 0 6 50 0;");
            refused("b 0 5 61 0;");
            refused("a 0 4 50 0;b 0 5 51 0;");
            good("a 0 5 50 0;", 0);
            is("lies: just as much as it holds", 10, x.lies(3, 1));
            is("lies: just as much as it holds", 100, x.lies(3, 2));
            refused("a 0 6 1 0;");
            refused("a 0 1 51 0;");
            refused("c 0 1 1 0;b 0 6 1 0;");
            is("stones", 2, x.stones());
            x.lay(1, 2);
            good("a 0 9 99 0;b 0 9 99 0;", 0);
        });
        test("Terms 7", "or if a drawer would hold what it may not", () -> {
            come("a", 0, 1, 1, 0);
            come("b", 1, 1, 1, 0);
            come("c", 2, 1, 1, 0);
            x.lay(0, 1);
            x.lay(1, 1);
            x.part(1, 1, true);
            x.part(4, 1, true);
            refused("a 1 1 1 0;");
            refused("a 4 1 1 0;");
            good("c 4 1 1 0;", 0);
            good("a 3 1 1 0;", 0);
            refused("n 0 1 1 0;a 4 1 1 0;");
            is("stones", 3, x.stones());
            is("lay: the other one is of kind 4 by now", 3, x.lay(2, 1));
        });
    }

    private static void writing() {
        test("Promise 43", "Writes the catalogue, in place of what was written before. | Returns the number of signs.", () -> {
            is("write without stones", 0, x.write());
            come("a", 0, 1, 1, 0);
            is("write", 10, x.write());
            for (int i = 0; i < 9; i++) {
                come("zzz" + (char) ('a' + i), 5, 9, 99, 10000);
            }
            is("write", 10 + 9 * 18, x.write());
            for (int i = 0; i < 10; i++) {
                x.undo();
            }
            is("write without stones again", 0, x.write());
            noIndex("writtenAt: in place of what was written before", () -> x.writtenAt(0));
        });
        test("Promise 44", "Returns a sign of what was written last. | `index`: index of a sign, from 0 | "
            + "Returns the sign. | Throws `IndexOutOfBoundsException` if there is no such sign, or nothing was "
            + "written", () -> {
                numbers("writtenAt: nothing was written", 0, index -> x.writtenAt(index));
                x.write();
                numbers("writtenAt: nothing stands there", 0, index -> x.writtenAt(index));
                for (int i = 0; i < 10; i++) {
                    come("zzz" + (char) ('a' + i), 5, 9, 99, 10000);
                }
                numbers("writtenAt: it is not written yet", 0, index -> x.writtenAt(index));
                is("write", 180, x.write());
                numbers("writtenAt", 180, index -> x.writtenAt(index));
                is("writtenAt 0", 'z', x.writtenAt(0));
                is("writtenAt 3", 'a', x.writtenAt(3));
                is("writtenAt 179", ';', x.writtenAt(179));
                is("undo", 9, x.undo());
                is("writtenAt: undo leaves what is written", ';', x.writtenAt(179));
                is("write", 162, x.write());
                numbers("writtenAt", 162, index -> x.writtenAt(index));
            });
        test("Terms 7", "The catalogue that is written has all stones in the order of codes, each as CODE, kind, size, weight "
            + "and value, with a blank ahead of each number, and ; .", () -> {
                come("b", 0, 1, 1, 0);
                come("aaab", 5, 9, 99, 10000);
                come("aa", 1, 2, 10, 9);
                come("a", 2, 3, 9, 10);
                come("z", 3, 4, 90, 99);
                come("y", 4, 5, 11, 100);
                come("x", 4, 5, 11, 999);
                come("w", 4, 5, 11, 1000);
                come("v", 4, 5, 11, 9999);
                come("u", 4, 5, 11, 1001);
                is("written", "a 2 3 9 10;aa 1 2 10 9;aaab 5 9 99 10000;b 0 1 1 0;u 4 5 11 1001;v 4 5 11 9999;w 4 5 11 1000;"
                        + "x 4 5 11 999;y 4 5 11 100;z 3 4 90 99;", written());
                String all = written();
                fresh();
                good(all, 10);
                is("what is written can be joined", all, written());
            });
    }
}
