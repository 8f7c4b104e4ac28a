import java.util.function.LongSupplier;

/** What the tests by hand share: the cabinet that is asked, and answers that are held against those that are due. */
abstract class Checks {
    static final int MOST = Integer.MAX_VALUE;
    static final int LEAST = Integer.MIN_VALUE;

    static Stonecabinet x;
    static String about = "";

    private static int checked = 0;
    private static int wrong = 0;

    static void fresh() {
        x = new Stonecabinet();
    }

    static void is(String call, Object due, Object got) {
        checked++;
        if (!due.equals(got)) {
            wrong++;
            System.out.println(about + ": " + call + " answered " + got + ", due is " + due);
        }
    }

    static void is(String call, long due, long got) {
        is(call, (Object) due, (Object) got);
    }

    /** The class of the exception itself, for one that the machine throws would be of a class below it. */
    static void fails(String call, Class<?> due, LongSupplier body) {
        Object got;
        try {
            got = body.getAsLong();
        } catch (RuntimeException e) {
            got = e.getClass();
        }
        is(call, (Object) due, got);
    }

    static void noIndex(String call, LongSupplier body) {
        fails(call, IndexOutOfBoundsException.class, body);
    }

    static void noArgument(String call, LongSupplier body) {
        fails(call, IllegalArgumentException.class, body);
    }

    static void noState(String call, LongSupplier body) {
        fails(call, IllegalStateException.class, body);
    }

    static int put(String text) {
        int length = -1;
        for (int start = 0; start < text.length(); start += 20) {
            int[] words = new int[5];
            for (int i = start; i < Math.min(text.length(), start + 20); i++) {
                words[(i - start) / 4] |= (text.charAt(i) & 255) << (24 - 8 * ((i - start) % 4));
            }
            length = x.append(words[0], words[1], words[2], words[3], words[4]);
        }
        return length;
    }

    static int come(String code, int kind, int size, int weight, int value) {
        put(code);
        return x.stone(kind, size, weight, value);
    }

    /** Stones with the codes a, b, and so on, small and light, of kind 0 and value 100. */
    static void comeMany(int count) {
        for (int i = 0; i < count; i++) {
            come(String.valueOf((char) ('a' + i)), 0, 1, 1, 100);
        }
    }

    static String written() {
        StringBuilder text = new StringBuilder();
        int signs = x.write();
        for (int i = 0; i < signs; i++) {
            text.append(x.writtenAt(i));
        }
        return text.toString();
    }

    static long partOf(int one, int other, boolean arePartedNow) {
        return x.part(one, other, arePartedNow) ? 1 : 0;
    }

    static void drawersAre(int... due) {
        for (int stone = 0; stone < due.length; stone++) {
            is("drawer of " + stone, due[stone], x.stoneOf(stone, 4));
        }
    }

    /** The stones of the ring, in their order; none if there is no ring. */
    static void ringIs(int... due) {
        is("ring", due.length, x.ring());
        for (int place = 0; place < due.length; place++) {
            is("ringAt " + place, due[place], x.ringAt(place));
        }
        noIndex("ringAt", () -> x.ringAt(due.length));
        noIndex("ringAt", () -> x.ringAt(-1));
        noIndex("ringAt", () -> x.ringAt(MOST));
    }

    /** From which each offer gets (-1 if it is not in the plan), and how many rings that makes. */
    static void planIs(int rings, int... due) {
        int inPlan = 0;
        for (int offer = 0; offer < due.length; offer++) {
            is("getsFrom " + offer, due[offer], x.getsFrom(offer));
            inPlan += due[offer] == -1 ? 0 : 1;
        }
        is("plan", inPlan, x.plan());
        is("rings", rings, x.rings());
        noIndex("getsFrom", () -> x.getsFrom(due.length));
        noIndex("getsFrom", () -> x.getsFrom(-1));
    }

    /** A tape with which no stone can come, and the error position then. */
    static void badCode(String text, int position) {
        put(text);
        noArgument("stone with the tape '" + text + "'", () -> x.stone(0, 1, 1, 0));
        is("errorPosition of '" + text + "'", position, x.errorPosition());
        is("the tape behind '" + text + "'", 0, x.clearTape());
    }

    static void endTests() {
        System.out.println(checked + " answers checked, " + wrong + " wrong");
        if (wrong != 0) {
            System.exit(1);
        }
    }
}
