import java.util.ArrayList;
import java.util.List;
import java.util.function.IntToLongFunction;

/** What the tests of boundary cases share: each holds a new cabinet against sentences of the document that it quotes. */
abstract class Boundaries extends Checks {
    /** A sentence, or a part of one, and the promise or the term where it stands. */
    record Quote(String section, String words) { }

    static final int[] GOOD_DATES = {19000101, 19000228, 20000229, 20240229, 21000228, 21991231};
    static final int[] BAD_DATES = {18991231, 22000101, 19000229, 21000229, 20230229, 20240230, 20240431, 20241131,
        20241301, 20240001, 20240100, 20240132, 101, 0, -1, -20240101, MOST, LEAST};

    private static final List<Quote> QUOTES = new ArrayList<>();

    static List<Quote> quotes() {
        return QUOTES;
    }

    /** The words are sentences of the section, or parts of them, with a bar between two of them. */
    static void test(String section, String words, Runnable body) {
        for (String part : words.split(" \\| ")) {
            QUOTES.add(new Quote(section, part));
        }
        about = section + " (" + words + ")";
        fresh();
        try {
            body.run();
        } catch (RuntimeException e) {
            is("a call that should answer", "an answer", e.toString());
        }
    }

    /** No exception for the least and the greatest number; what is beyond them, near and far, is out of range. */
    static void range(String call, int least, int most, IntToLongFunction body) {
        answers(call, least, body);
        answers(call, most, body);
        for (int number : new int[] {least - 1, most + 1, LEAST, MOST}) {
            noArgument(call + " of " + number, () -> body.applyAsLong(number));
        }
    }

    static void answers(String call, int number, IntToLongFunction body) {
        try {
            body.applyAsLong(number);
        } catch (RuntimeException e) {
            is(call + " of " + number, "an answer", e.toString());
        }
    }

    /** Numbers from 0 on, so many, are there; others are not. */
    static void numbers(String call, int count, IntToLongFunction body) {
        if (count > 0) {
            answers(call, 0, body);
            answers(call, count - 1, body);
        }
        for (int number : new int[] {-1, count, LEAST, MOST}) {
            noIndex(call + " of " + number, () -> body.applyAsLong(number));
        }
    }

    static void dates(String call, IntToLongFunction body) {
        for (int date : GOOD_DATES) {
            answers(call, date, body);
        }
        for (int date : BAD_DATES) {
            noArgument(call + " of " + date, () -> body.applyAsLong(date));
        }
    }

    /** Stones of one size and weight, with the codes a, b, and so on. */
    static void comeAlike(int count, int kind, int size, int weight) {
        for (int i = 0; i < count; i++) {
            come(String.valueOf((char) ('a' + i)), kind, size, weight, 0);
        }
    }

    static void scratchMany(int count) {
        for (int number = 0; number < count; number++) {
            is("scratch", number, x.scratch(0, 1));
        }
    }
}
