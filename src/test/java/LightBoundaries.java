/** The boundary cases of light: promises 33 to 36, and term 5. */
final class LightBoundaries extends Boundaries {
    static void all() {
        setting();
        showing();
        years();
        mostDays();
    }

    private static void setting() {
        test("Promise 33", "`stone`: number of a stone | Throws `IndexOutOfBoundsException` if there is no such stone", () -> {
            numbers("setLight without stones", 0, stone -> x.setLight(stone, 0));
            comeMany(10);
            numbers("setLight", 10, stone -> x.setLight(stone, 0));
            noIndex("setLight: no stone ahead of a light out of range", () -> x.setLight(10, -1));
        });
        test("Promise 33", "`light`: 0 to 100000 | Throws `IllegalArgumentException` if light is out of range", () -> {
            comeMany(1);
            range("setLight", 0, 100000, light -> x.setLight(0, light));
            x.show(0, 20240101, 1, 1);
            noArgument("setLight: out of range, and it has more", () -> x.setLight(0, -1));
        });
        test("Promise 33", "Throws `IllegalStateException` if it has more in a year", () -> {
            comeMany(2);
            is("show over three years", 0, x.show(0, 20231231, 368, 10));
            noState("setLight", () -> x.setLight(0, 3659));
            noState("setLight", () -> x.setLight(0, 0));
            is("setLight: just as much", 5000, x.setLight(0, 3660));
            is("setLight of another one", 5000, x.setLight(1, 0));
            is("show", 1, x.show(0, 20230101, 4, 900));
            is("setLight: 3610 in the year of another show", 3660, x.setLight(0, 3660));
            is("show", 2, x.show(0, 20230101, 1, 50));
            noState("setLight: 3660 in two years", () -> x.setLight(0, 3659));
            fresh();
            comeMany(1);
            x.show(0, 20231231, 2, 7);
            noState("setLight: 7 in each of two years", () -> x.setLight(0, 6));
            is("setLight: never 14 in one", 5000, x.setLight(0, 7));
            fresh();
            comeMany(2);
            x.show(0, 21991231, 1, 9);
            noState("setLight: 9 in the last year", () -> x.setLight(0, 8));
            is("setLight", 5000, x.setLight(0, 9));
            x.show(1, 19000101, 1, 9);
            noState("setLight: 9 in the first year", () -> x.setLight(1, 8));
            is("setLight", 5000, x.setLight(1, 9));
        });
        test("Promise 33", "Sets how much light a stone may have in a year. | Returns how much it might have.", () -> {
            comeMany(2);
            is("setLight", 5000, x.setLight(0, 0));
            is("setLight", 0, x.setLight(0, 100000));
            is("setLight", 100000, x.setLight(0, 1));
            is("setLight of another one", 5000, x.setLight(1, 1));
            noState("show: more than it may", () -> x.show(0, 20240101, 1, 2));
            is("show: as much as it may", 0, x.show(0, 20240101, 1, 1));
        });
        test("Terms 5", "A stone may have so much light in a year (0 to 100000; at first 5000).", () -> {
            comeMany(1);
            put("b 0 1 1 0;");
            is("join", 1, x.join());
            for (int stone = 0; stone < 2; stone++) {
                is("mostDays of 1000", 5, x.mostDays(stone, 20240101, 1000));
                is("setLight", 5000, x.setLight(stone, 0));
                is("mostDays", 0, x.mostDays(stone, 20240101, 1));
                is("setLight", 0, x.setLight(stone, 100000));
                is("mostDays", 100, x.mostDays(stone, 20240101, 1000));
            }
        });
    }

    private static void showing() {
        test("Promise 34", "`stone`: number of a stone | Throws `IndexOutOfBoundsException` if there is no such stone", () -> {
            numbers("show without stones", 0, stone -> x.show(stone, 20240101, 1, 1));
            comeMany(10);
            numbers("show", 10, stone -> x.show(stone, 20240101, 1, 1));
            noIndex("show: no stone ahead of all that is out of range", () -> x.show(10, 0, 0, 0));
        });
        test("Promise 34", "`date`: a date | `days`: 1 to 400 | `light`: 1 to 1000 | "
            + "Throws `IllegalArgumentException` if a number is out of range", () -> {
                comeMany(1);
                x.setLight(0, 100000);
                dates("show", date -> x.show(0, date, 1, 1));
                range("show, days", 1, 400, days -> x.show(0, 20240101, days, 1));
                range("show, light", 1, 1000, light -> x.show(0, 20240101, 1, light));
                is("light", 366 + 1 + 1000 + 1 + 1, x.light(0, 2024));
                noArgument("show: no date and too much light", () -> x.show(0, 20230229, 400, 1000));
            });
        test("Promise 34", "or the last day is behind 21991231", () -> {
            comeMany(1);
            is("show on the last day", 0, x.show(0, 21991231, 1, 1));
            noArgument("show a day behind the last one", () -> x.show(0, 21991231, 2, 1));
            is("show on the last two days", 1, x.show(0, 21991230, 2, 1));
            noArgument("show", () -> x.show(0, 21991230, 3, 1));
            is("show in the last year", 2, x.show(0, 21990101, 365, 1));
            noArgument("show", () -> x.show(0, 21990101, 366, 1));
            is("show", 3, x.show(0, 21981127, 400, 1));
            noArgument("show", () -> x.show(0, 21981128, 400, 1));
            is("show", 4, x.show(0, 21981128, 399, 1));
            noArgument("show: behind the last day, and too much light", () -> x.show(0, 21991231, 400, 1000));
        });
        test("Promise 34", "Throws `IllegalStateException` if 20 are told, or it would have more light in a year than it "
            + "may", () -> {
                comeMany(2);
                for (int number = 0; number < 20; number++) {
                    is("show", number, x.show(number % 2, 20240101, 1, 1));
                }
                noArgument("show: out of range, and 20", () -> x.show(0, 20240101, 0, 1));
                noArgument("show: behind the last day, and 20", () -> x.show(0, 21991231, 2, 1));
                noState("show: 20 are told", () -> x.show(1, 19990101, 1, 1));
                noState("show: too much light, too", () -> x.show(1, 19990101, 6, 1000));
                x.undo();
                is("show: 19 are told again", 19, x.show(0, 19990101, 1, 1));
            });
        test("Promise 34", "or it would have more light in a year than it may", () -> {
            comeMany(1);
            noState("show: 5001 in one year", () -> x.show(0, 20240101, 6, 1000));
            noState("show: 5004 in one year", () -> x.show(0, 20230101, 36, 139));
            is("show: 5000 in one year", 0, x.show(0, 20240101, 5, 1000));
            noState("show: 1 more", () -> x.show(0, 20241231, 1, 1));
            noState("show: 1 more in the year behind", () -> x.show(0, 20231231, 2, 1));
            is("show: none more", 1, x.show(0, 20231231, 1, 1000));
            noState("show: over two years, too much in the first one", () -> x.show(0, 20241231, 2, 1));
            is("show in the next year", 2, x.show(0, 20250101, 5, 1000));
            x.setLight(0, 5001);
            is("show: 1 more that it may have now", 3, x.show(0, 20241231, 2, 1));
            is("light", 5001, x.light(0, 2024));
            is("light", 5001, x.light(0, 2025));
        });
        test("Promise 34", "Shows a stone. | Returns the number of the show.", () -> {
            comeMany(2);
            is("show", 0, x.show(1, 20240101, 400, 10));
            is("show", 1, x.show(0, 20240101, 1, 1));
            is("show", 2, x.show(1, 19000101, 1, 1));
            is("light", 3660, x.light(1, 2024));
            is("light", 340, x.light(1, 2025));
        });
        test("Terms 5", "if by this it has in no year more than it may; shows of one stone can overlap", () -> {
            comeMany(2);
            is("show", 0, x.show(0, 20240101, 10, 250));
            is("show of the same days", 1, x.show(0, 20240101, 10, 250));
            noState("show of one of them", () -> x.show(0, 20240105, 1, 1));
            is("show of another stone", 2, x.show(1, 20240105, 1, 1));
            is("light", 5000, x.light(0, 2024));
        });
        test("Terms 5", "It can be shown from a date on, so many days (1 to 400), with so much light on each of them (1 to "
            + "1000)", () -> {
                comeMany(1);
                is("show: the least", 0, x.show(0, 20240101, 1, 1));
                is("light", 1, x.light(0, 2024));
                x.setLight(0, 100000);
                is("show: the longest", 1, x.show(0, 20220101, 400, 100));
                is("light", 36500, x.light(0, 2022));
                is("light", 3500, x.light(0, 2023));
                is("show: the brightest", 2, x.show(0, 20240102, 99, 1000));
                is("light", 99001, x.light(0, 2024));
            });
        test("Terms 5", "At most 20 shows are told.", () -> {
            comeMany(10);
            for (int number = 0; number < 20; number++) {
                is("show", number, x.show(number / 2, 20240101, 1, 1));
            }
            noState("show", () -> x.show(9, 20240101, 1, 1));
            is("light", 2, x.light(9, 2024));
        });
    }

    private static void years() {
        test("Promise 35", "`stone`: number of a stone | Throws `IndexOutOfBoundsException` if there is no such stone", () -> {
            numbers("light without stones", 0, stone -> x.light(stone, 2024));
            comeMany(10);
            numbers("light", 10, stone -> x.light(stone, 2024));
            noIndex("light: no stone ahead of a year out of range", () -> x.light(10, 1899));
        });
        test("Promise 35", "`year`: 1900 to 2199 | Throws `IllegalArgumentException` if year is out of range", () -> {
            comeMany(1);
            range("light", 1900, 2199, year -> x.light(0, year));
        });
        test("Promise 35", "Returns how much light a stone has in a year. | Returns the light.", () -> {
            comeMany(2);
            is("light without shows", 0, x.light(0, 1900));
            x.show(0, 19000101, 1, 3);
            x.show(0, 21991231, 1, 4);
            x.show(0, 19991231, 367, 5);
            x.show(0, 20991231, 367, 6);
            int[][] due = {{1900, 3}, {1901, 0}, {1998, 0}, {1999, 5}, {2000, 1830}, {2001, 0}, {2099, 6}, {2100, 2190},
                {2101, 6}, {2102, 0}, {2198, 0}, {2199, 4}};
            for (int[] year : due) {
                is("light in " + year[0], year[1], x.light(0, year[0]));
                is("light of another one", 0, x.light(1, year[0]));
            }
        });
    }

    private static void mostDays() {
        test("Promise 36", "`stone`: number of a stone | Throws `IndexOutOfBoundsException` if there is no such stone", () -> {
            numbers("mostDays without stones", 0, stone -> x.mostDays(stone, 20240101, 1));
            comeMany(10);
            numbers("mostDays", 10, stone -> x.mostDays(stone, 20240101, 1));
            noIndex("mostDays: no stone ahead of all that is out of range", () -> x.mostDays(10, 0, 0));
        });
        test("Promise 36", "`date`: a date | `light`: 1 to 1000 | Throws `IllegalArgumentException` if a number is out of "
            + "range", () -> {
                comeMany(1);
                dates("mostDays", date -> x.mostDays(0, date, 1));
                range("mostDays, light", 1, 1000, light -> x.mostDays(0, 20240101, light));
            });
        test("Promise 36", "Returns 0 to 400", () -> {
            comeMany(1);
            is("mostDays: never more than 400", 400, x.mostDays(0, 20240101, 1));
            x.setLight(0, 100000);
            is("mostDays: never more than 400", 400, x.mostDays(0, 20240101, 250));
            x.setLight(0, 366);
            is("mostDays: the whole leap year, and more", 400, x.mostDays(0, 20240101, 1));
            is("mostDays: the whole leap year, and more on both sides", 400, x.mostDays(0, 20231231, 1));
            x.setLight(0, 365);
            is("mostDays: a day, and one less than the leap year", 366, x.mostDays(0, 20231231, 1));
            is("mostDays: one less than the leap year", 365, x.mostDays(0, 20240101, 1));
            is("mostDays: the whole year, and more", 400, x.mostDays(0, 20230101, 1));
            x.setLight(0, 364);
            is("mostDays: one less than the year", 364, x.mostDays(0, 20230101, 1));
            x.setLight(0, 34);
            is("mostDays: over the end of the year", 35, x.mostDays(0, 20231231, 1));
            x.setLight(0, 999);
            is("mostDays: not even one", 0, x.mostDays(0, 20240101, 1000));
            x.setLight(0, 1000);
            is("mostDays: one, and one in the next year", 2, x.mostDays(0, 20231231, 1000));
            x.setLight(0, 0);
            is("mostDays: none", 0, x.mostDays(0, 20240101, 1));
        });
        test("Promise 36", "not behind 21991231", () -> {
            comeMany(1);
            is("mostDays from the last day on", 1, x.mostDays(0, 21991231, 1));
            is("mostDays from the last day but one on", 2, x.mostDays(0, 21991230, 1));
            is("mostDays in the last year", 365, x.mostDays(0, 21990101, 1));
            is("mostDays", 399, x.mostDays(0, 21981128, 1));
            is("mostDays", 400, x.mostDays(0, 21981127, 1));
            is("mostDays", 400, x.mostDays(0, 21981126, 1));
            x.setLight(0, 0);
            is("mostDays", 0, x.mostDays(0, 21991231, 1));
        });
        test("Promise 36", "Returns the most days that a stone can be shown from a date on, with so much light on each of "
            + "them.", () -> {
                comeMany(2);
                x.show(0, 20241201, 5, 999);
                is("mostDays: 5 are left of this year", 5, x.mostDays(0, 20240101, 1));
                is("mostDays: 5 are left", 2, x.mostDays(0, 20240101, 2));
                is("mostDays: 5 are left", 0, x.mostDays(0, 20240101, 6));
                is("mostDays from the year ahead on", 2, x.mostDays(0, 20231230, 6));
                is("mostDays from the year ahead on", 6, x.mostDays(0, 20231231, 1));
                is("mostDays of another one", 400, x.mostDays(1, 20240101, 13));
                is("mostDays of another one", 357, x.mostDays(1, 20240101, 14));
                noState("show of one day more", () -> x.show(0, 20231231, 7, 1));
                is("show of just these", 1, x.show(0, 20231231, 6, 1));
                is("mostDays: nothing is left", 0, x.mostDays(0, 20240101, 1));
                is("light", 5000, x.light(0, 2024));
            });
    }
}
