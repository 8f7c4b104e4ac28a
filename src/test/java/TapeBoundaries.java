/** The boundary cases of the tape and of stones: promises 1 to 7, term 1, and how long an object is used. */
final class TapeBoundaries extends Boundaries {
    static void all() {
        object();
        tape();
        codes();
        stones();
        tellAboutStones();
    }

    /** Blanks, so many, put onto an empty tape. */
    private static void blanks(int count) {
        x.clearTape();
        put(" ".repeat(count));
    }

    private static void object() {
        test("What it is", "An object is used for at most 512 calls after it has been made", () -> {
            come("a", 0, 1, 1, 0);
            come("b", 0, 1, 1, 0);
            int before = 5000;
            for (int call = 5; call <= 509; call++) {
                is("setLight in call " + call, before, x.setLight(1, call));
                before = call;
            }
            is("undo in call 510", 14, x.undo());
            is("setLight in call 511", 508, x.setLight(1, 7));
            is("checksum in call 512", (17 * 31 + 1) * 31 + 1, x.checksum());
        });
        test("Promise 1", "Creates a cabinet without stones", () -> {
            is("stones", 0, x.stones());
            noIndex("stoneOf", () -> x.stoneOf(0, 0));
            is("checksum", 17, x.checksum());
        });
        test("Promise 1", "with an empty tape", () -> is("clearTape", 0, x.clearTape()));
        test("Promise 1", "nothing is told or written", () -> {
            noIndex("unscratch", () -> x.unscratch(0));
            noIndex("takeBack", () -> x.takeBack(0));
            noIndex("getsFrom", () -> x.getsFrom(0));
            noIndex("writtenAt", () -> x.writtenAt(0));
            is("time", 0, x.time());
            is("undo", -1, x.undo());
            is("errorPosition", -1, x.errorPosition());
        });
        test("Terms 9", "`NONE = -1`: The absence of a number.", () -> is("NONE", -1, Stonecabinet.NONE));
    }

    private static void tape() {
        test("Promise 2", "the four bytes of each parameter, the most significant byte first, in the order of the "
            + "parameters", () -> {
                is("append", 20, x.append(0x61203420, 0x35203620, 0x373b6220, 0x30203120, 0x3220333b));
                is("join", 2, x.join());
                is("written", "a 4 5 6 7;b 0 1 2 3;", written());
                x.append(0x79000000, 0x78000000, 0x77000000, 0x76000000, 0x3f000000);
                noArgument("stone", () -> x.stone(0, 1, 1, 0));
                is("the fifth byte does not fit", 4, x.errorPosition());
            });
        test("Promise 2", "Bytes that are 0 are left out.", () -> {
            is("append of zeros", 0, x.append(0, 0, 0, 0, 0));
            is("append", 1, x.append(0x61000000, 0, 0, 0, 0));
            is("append", 2, x.append(0, 0x00620000, 0, 0, 0));
            is("append", 3, x.append(0, 0, 0x00006300, 0, 0));
            is("append", 4, x.append(0, 0, 0, 0, 0x00000064));
            x.stone(0, 1, 1, 0);
            is("written", "abcd 0 1 1 0;", written());
        });
        test("Promise 2", "Returns the number of bytes on the tape afterwards.", () -> {
            is("append of 20 bytes of 255", 20, x.append(-1, -1, -1, -1, -1));
            is("append", 24, x.append(LEAST, 1, 0x100, 0x10000, 0));
            is("append of nothing", 24, x.append(0, 0, 0, 0, 0));
        });
        test("Promise 2", "Throws `IllegalStateException` if the tape would have more than 300 bytes", () -> {
            blanks(300);
            noState("append of 1 behind 300", () -> x.append(0, 0, 0, 0, 1));
            is("append of none behind 300", 300, x.append(0, 0, 0, 0, 0));
            is("clearTape", 300, x.clearTape());
            blanks(299);
            noState("append of 2 behind 299", () -> x.append(0x20000000, 0, 0, 0, 0x20));
            is("append of 1 behind 299: nothing of the 2 is on the tape", 300, x.append(0, 0, 0x20, 0, 0));
            blanks(281);
            noState("append of 20 behind 281", () -> x.append(-1, -1, -1, -1, -1));
            is("append of 19 behind 281", 300, x.append(-1, -1, -1, -1, -256));
            is("clearTape", 300, x.clearTape());
            blanks(280);
            is("append of 20 behind 280", 300, x.append(-1, -1, -1, -1, -1));
        });
        test("Promise 3", "Empties the tape. | Returns the number of bytes that were on it.", () -> {
            is("clearTape of an empty one", 0, x.clearTape());
            blanks(300);
            is("clearTape of a full one", 300, x.clearTape());
            is("clearTape again", 0, x.clearTape());
            put("a");
            is("stone", 0, x.stone(0, 1, 1, 0));
        });
        test("Promise 4", "Returns the error position of the latest call that read the tape.", () -> {
            put("ab?");
            noArgument("stone", () -> x.stone(0, 1, 1, 0));
            is("errorPosition", 2, x.errorPosition());
            put("a");
            is("errorPosition: append does not read", 2, x.errorPosition());
            x.clearTape();
            is("errorPosition: clearTape does not read", 2, x.errorPosition());
            x.write();
            x.undo();
            is("errorPosition: write and undo do not read", 2, x.errorPosition());
            put("a 0 1 1;");
            noArgument("join", () -> x.join());
            is("errorPosition of join", 7, x.errorPosition());
            noArgument("stone", () -> x.stone(0, 1, 1, 0));
            is("errorPosition of stone", 0, x.errorPosition());
        });
        test("Promise 4", "Returns the position; NONE if there was no error, or no such call.", () -> {
            is("errorPosition without such a call", -1, x.errorPosition());
            badCode("?", 0);
            is("stone", 0, come("a", 0, 1, 1, 0));
            is("errorPosition of a good stone", -1, x.errorPosition());
            badCode("?", 0);
            is("join of an empty tape", 0, x.join());
            is("errorPosition of a good join", -1, x.errorPosition());
        });
    }

    private static void codes() {
        test("Promise 5", "or the tape is no code (the error position is the first byte that does not fit, or the "
            + "length)", () -> {
                badCode("", 0);
                badCode("abcde", 4);
                badCode("abcdefghij", 4);
                badCode("abcd ", 4);
                badCode(" a", 0);
                badCode("a b", 1);
                badCode("ab\n", 2);
                badCode("abc1", 3);
                badCode("A", 0);
                badCode("Z", 0);
                badCode("a`", 1);
                badCode("a{", 1);
                badCode("\u0001", 0);
                badCode("a\u00e1", 1);
                badCode("\u00ff", 0);
                badCode(" ".repeat(300), 0);
                badCode("a".repeat(300), 4);
                is("stones", 0, x.stones());
            });
        test("Promise 5", "or a stone has it (the error position is 0)", () -> {
            come("abcd", 0, 1, 1, 0);
            come("z", 0, 1, 1, 0);
            badCode("abcd", 0);
            badCode("z", 0);
            is("the beginning of a code is another code", 2, come("abc", 0, 1, 1, 0));
            is("a longer one is another code", 3, come("zz", 0, 1, 1, 0));
            is("the same letters in another order", 4, come("dcba", 0, 1, 1, 0));
        });
        test("Terms 1", "A stone has a code (a word of 1 to 4 letters a to z, that no other one has)", () -> {
            is("a code of 1 letter", 0, come("a", 0, 1, 1, 0));
            is("a code of 1 letter", 1, come("z", 0, 1, 1, 0));
            is("a code of 4 letters", 2, come("zzzz", 0, 1, 1, 0));
            is("a code of 4 letters", 3, come("aaaa", 0, 1, 1, 0));
            badCode("", 0);
            badCode("aaaaa", 4);
            badCode("zzzz", 0);
            is("stones", 4, x.stones());
        });
    }

    private static long stoneOfNumbers(String code, int kind, int size, int weight, int value) {
        put(code);
        long number = -9;
        try {
            number = x.stone(kind, size, weight, value);
        } finally {
            is("the tape is emptied", 0, x.clearTape());
            is("the error position", -1, x.errorPosition());
        }
        return number;
    }

    private static void stones() {
        test("Promise 5", "`kind`: 0 to 5 | `size`: 1 to 9 | `weight`: 1 to 99 | `value`: 0 to 10000 | "
            + "Throws `IllegalArgumentException` if a number is out of range (the tape is emptied, too; the error position is "
            + "NONE then)", () -> {
                int[] next = {0};
                range("kind", 0, 5, kind -> stoneOfNumbers("" + (char) ('a' + next[0]++), kind, 1, 1, 0));
                range("size", 1, 9, size -> stoneOfNumbers("" + (char) ('a' + next[0]++), 0, size, 1, 0));
                range("weight", 1, 99, weight -> stoneOfNumbers("" + (char) ('a' + next[0]++), 0, 1, weight, 0));
                range("value", 0, 10000, value -> stoneOfNumbers("" + (char) ('a' + next[0]++), 0, 1, 1, value));
                is("stones", 8, x.stones());
            });
        test("Promise 5", "(the tape is emptied, too; the error position is NONE then)", () -> {
            badCode("a?", 1);
            put("a?");
            noArgument("stone: no code, and a number out of range", () -> x.stone(6, 1, 1, 0));
            is("errorPosition", -1, x.errorPosition());
            is("clearTape", 0, x.clearTape());
            noArgument("stone without a code, and a number out of range", () -> x.stone(0, 0, 1, 0));
            is("errorPosition", -1, x.errorPosition());
        });
        test("Promise 5", "Throws `IllegalStateException` if there are 10 (the tape is emptied, too)", () -> {
            for (int i = 0; i < 10; i++) {
                is("stone", i, come("" + (char) ('a' + i), 0, 1, 1, 0));
            }
            badCode("k?", 1);
            badCode("j", 0);
            put("k");
            noArgument("stone: a number out of range, and 10", () -> x.stone(0, 1, 1, 10001));
            badCode("kkkkk", 4);
            put("k");
            noState("stone: there are 10", () -> x.stone(0, 1, 1, 0));
            is("errorPosition", -1, x.errorPosition());
            is("clearTape", 0, x.clearTape());
            is("stones", 10, x.stones());
            x.undo();
            is("stone: there are 9 again", 9, come("k", 0, 1, 1, 0));
        });
        test("Promise 5", "A stone comes, with the code on the tape. | Returns its number.", () -> {
            is("stone", 0, come("qu", 5, 9, 99, 10000));
            is("the tape is read", 0, x.clearTape());
            is("stone", 1, come("fel", 0, 1, 1, 0));
            is("written", "fel 0 1 1 0;qu 5 9 99 10000;", written());
        });
        test("Terms 1", "There are at most 10 stones, numbered from 0 as they come. | "
            + "a kind (0 to 5), a size (1 to 9), a weight (1 to 99) and a value (0 to 10000)", () -> {
                for (int i = 0; i < 10; i++) {
                    is("stone", i, come("" + (char) ('z' - i), i % 2 * 5, 1 + i % 2 * 8, 1 + i % 2 * 98, i % 2 * 10000));
                }
                for (int i = 0; i < 10; i++) {
                    is("kind", i % 2 * 5, x.stoneOf(i, 0));
                    is("size", 1 + i % 2 * 8, x.stoneOf(i, 1));
                    is("weight", 1 + i % 2 * 98, x.stoneOf(i, 2));
                    is("value", i % 2 * 10000, x.stoneOf(i, 3));
                }
                put("a");
                noState("stone", () -> x.stone(0, 1, 1, 0));
                put("b 0 1 1 0;");
                noState("join", () -> x.join());
                is("stones", 10, x.stones());
            });
        test("Terms 1", "Stones never go.", () -> {
            comeMany(10);
            x.unscratch(x.scratch(0, 1));
            x.takeBack(x.tell(9, 20240101, 5));
            x.lay(9, 0);
            x.lay(9, -1);
            x.clearOffers();
            x.layAll(false);
            x.join();
            is("stones", 10, x.stones());
        });
        test("Promise 6", "Counts the stones. | Returns how many there are.", () -> {
            for (int i = 0; i < 10; i++) {
                is("stones", i, x.stones());
                come("" + (char) ('a' + i), 0, 1, 1, 0);
            }
            is("stones", 10, x.stones());
        });
    }

    private static void tellAboutStones() {
        test("Promise 7", "`stone`: number of a stone | Throws `IndexOutOfBoundsException` if there is no such stone", () -> {
            numbers("stoneOf without stones", 0, stone -> x.stoneOf(stone, 0));
            come("a", 0, 1, 1, 0);
            numbers("stoneOf of 1 stone", 1, stone -> x.stoneOf(stone, 5));
            noIndex("stoneOf: no stone ahead of what is out of range", () -> x.stoneOf(1, 6));
            noIndex("stoneOf: no stone ahead of what is out of range", () -> x.stoneOf(-1, -1));
            x.undo();
            numbers("stoneOf without stones again", 0, stone -> x.stoneOf(stone, 0));
            comeMany(10);
            numbers("stoneOf of 10 stones", 10, stone -> x.stoneOf(stone, 4));
        });
        test("Promise 7", "Throws `IllegalArgumentException` if what is out of range", () -> {
            comeMany(1);
            range("stoneOf", 0, 5, what -> x.stoneOf(0, what));
        });
        test("Promise 7", "Tells about a stone. | `what`: 0 its kind, 1 its size, 2 its weight, 3 its value, 4 its drawer or "
            + "NONE, 5 its place in the order of codes | Returns what is asked.", () -> {
                come("b", 5, 9, 99, 10000);
                come("aaaa", 0, 1, 1, 0);
                come("bb", 1, 2, 3, 4);
                come("a", 4, 3, 2, 1);
                x.lay(1, 0);
                x.lay(2, 3);
                int[][] due = {{5, 9, 99, 10000, -1, 2}, {0, 1, 1, 0, 0, 1}, {1, 2, 3, 4, 3, 3}, {4, 3, 2, 1, -1, 0}};
                for (int stone = 0; stone < 4; stone++) {
                    for (int what = 0; what < 6; what++) {
                        is("stoneOf " + stone + " " + what, due[stone][what], x.stoneOf(stone, what));
                    }
                }
            });
        test("Promise 7", "5 its place in the order of codes", () -> {
            String[] codes = {"zzzz", "zz", "z", "ba", "b", "ab", "aaaa", "aaa", "aa", "a"};
            for (int stone = 0; stone < 10; stone++) {
                come(codes[stone], 0, 1, 1, 0);
                is("the latest one is the first", 0, x.stoneOf(stone, 5));
            }
            for (int stone = 0; stone < 10; stone++) {
                is("place of " + codes[stone], 9 - stone, x.stoneOf(stone, 5));
            }
        });
    }
}
