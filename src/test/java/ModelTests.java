import java.lang.reflect.InvocationTargetException;
import java.lang.reflect.Method;
import java.util.ArrayList;
import java.util.Arrays;
import java.util.List;

/** Long runs of calls, by a fixed row of numbers, on the class and on the model: both must answer the same. */
public final class ModelTests {
    private static final int[] DATES = {19000101, 19000102, 19000228, 19000301, 20231231, 20240101, 20240102, 20240131,
        20240201, 20240228, 20240229, 20240301, 20241231, 20250101, 21000228, 21000301, 21981201, 21991201, 21991230,
        21991231};
    private static final int[] WRONG_DATES = {0, -1, -20240101, 18991231, 22000101, 20240230, 20240431, 20241301, 20240001,
        20240100, 20240132, 19000229, 21000229, 20230229, Integer.MAX_VALUE, Integer.MIN_VALUE};
    private static final String[] CODES = {"a", "b", "ab", "abc", "abcd", "z", "zz", "aa", "aaa", "m", "qu", "fel", "zzzz"};

    private static long seed;

    private static int below(int bound) {
        seed = seed * 6364136223846793005L + 1442695040888963407L;
        return (int) ((seed >>> 33) % bound);
    }

    private static int pick(int least, int most) {
        return least + below(most - least + 1);
    }

    private static int wild() {
        int[] some = {-1, -2, 10, 11, 100, 1000, 100001, Integer.MAX_VALUE, Integer.MIN_VALUE};
        return some[below(some.length)];
    }

    private static int maybe(int number) {
        return below(40) == 0 ? wild() : number;
    }

    private static int date() {
        if (below(25) == 0) {
            return WRONG_DATES[below(WRONG_DATES.length)];
        }
        if (below(3) == 0) {
            return 10000 * pick(1900, 2199) + 100 * pick(1, 12) + pick(1, 28);
        }
        return below(2) == 0 ? 20240000 + 100 * pick(1, 4) + pick(1, 28) : DATES[below(DATES.length)];
    }

    private final Stonecabinet cabinet = new Stonecabinet();
    private final Model model = new Model();
    private final List<String> calls = new ArrayList<>();
    private final int stonesWanted;
    private final int mostCalls;
    private final int heavy;

    private ModelTests(int stonesWanted, int mostCalls, int heavy) {
        this.stonesWanted = stonesWanted;
        this.mostCalls = mostCalls;
        this.heavy = heavy;
    }

    private Object answer(Object target, Class<?> type, String name, Class<?>[] types, Object[] values) {
        try {
            Method method = type.getDeclaredMethod(name, types);
            method.setAccessible(true);
            return method.invoke(target, values);
        } catch (InvocationTargetException e) {
            return "throws." + e.getCause().getClass().getName();
        } catch (ReflectiveOperationException e) {
            throw new AssertionError(e);
        }
    }

    private void call(String name, Object... values) {
        Class<?>[] types = new Class<?>[values.length];
        for (int i = 0; i < values.length; i++) {
            types[i] = values[i] instanceof Boolean ? boolean.class : int.class;
        }
        Object got = answer(cabinet, Stonecabinet.class, name, types, values);
        Object due = answer(model, Model.class, name, types, values);
        calls.add(name + Arrays.toString(values) + " = " + got);
        if (!got.equals(due)) {
            calls.forEach(System.out::println);
            throw new AssertionError(name + Arrays.toString(values) + " answered " + got + ", due is " + due);
        }
    }

    private void putText(String text) {
        for (int start = 0; start < text.length(); start += 20) {
            int[] words = new int[5];
            for (int i = start; i < Math.min(text.length(), start + 20); i++) {
                words[(i - start) / 4] |= (text.charAt(i) & 255) << (24 - 8 * ((i - start) % 4));
            }
            call("append", words[0], words[1], words[2], words[3], words[4]);
        }
    }

    private int aStone() {
        return maybe(pick(0, Math.max(0, model.stones() - 1)));
    }

    private boolean flag() {
        return below(2) == 0;
    }

    private void comeStone() {
        String code = CODES[below(CODES.length)];
        if (below(12) == 0) {
            code = new String[] {"", "abcde", "A", "a1", " a", "ab;", "\u00e9", "abcd ", "zz\n"}[below(9)];
        }
        putText(code);
        call("stone", maybe(pick(0, 5)), maybe(pick(1, 9)), maybe(pick(1, 99)), maybe(pick(0, 10000)));
        call("errorPosition");
    }

    private String catalogue() {
        StringBuilder text = new StringBuilder();
        int entries = pick(0, 4);
        for (int i = 0; i < entries; i++) {
            text.append(space(0)).append(CODES[below(CODES.length)]).append(space(0)).append(pick(0, 5)).append(space(1))
                    .append(pick(1, 9)).append(space(1)).append(pick(1, 99)).append(space(1)).append(pick(0, 10000))
                    .append(space(0)).append(';');
        }
        text.append(space(0));
        if (below(3) == 0 && text.length() > 0) {
            int at = below(text.length());
            String[] odd = {"", "a", "9", ";", " ", "\n", "A", "00000", "\u00ff", "-", "0", "zzzzz", "\t"};
            text.replace(at, at + below(2), odd[below(odd.length)]);
        }
        if (below(6) == 0) {
            text.setLength(below(text.length() + 1));
        }
        return text.toString();
    }

    private static String space(int least) {
        return new String[] {"", " ", "\n", "  "}[Math.max(least, below(4))];
    }

    private void joinSome() {
        putText(catalogue());
        call("join");
        call("errorPosition");
    }

    private void writeAll() {
        call("write");
        int signs = model.write();
        for (int i = 0; i < 3; i++) {
            call("writtenAt", pick(-1, signs));
        }
    }

    private void stonesStep() {
        switch (below(7)) {
            case 0 -> call("append", 0x61000000, 0x00620000, 0, 0x630a20, -1);
            case 1 -> call("clearTape");
            case 2 -> call("stones");
            case 3, 4 -> call("stoneOf", aStone(), maybe(pick(0, 5)));
            case 5 -> writeAll();
            default -> joinSome();
        }
    }

    private void scratchStep() {
        switch (below(13)) {
            case 0, 1 -> call("scratch", aStone(), aStone());
            case 2 -> call("unscratch", pick(-1, 8));
            case 3 -> call("ring");
            case 4 -> call("ringAt", pick(-1, 4));
            case 5 -> call("orders");
            case 6 -> call("rank", aStone(), flag());
            case 7 -> call("withRank", aStone(), maybe(pick(0, 9)));
            case 8 -> call("harder", aStone(), aStone());
            case 9 -> call("shareOf", aStone(), aStone(), flag());
            case 10, 11 -> call("nextTest", flag());
            default -> call("orderAt", pick(-1, model.stones()));
        }
    }

    private void drawerStep() {
        switch (below(9)) {
            case 0 -> call("setDrawer", maybe(pick(0, 3)), maybe(pick(0, 40)), maybe(pick(0, 300)));
            case 1 -> call("part", maybe(pick(0, 5)), maybe(pick(0, 5)), flag());
            case 2, 3, 4 -> call("lay", aStone(), maybe(pick(-1, 3)));
            case 5, 6 -> call("lies", maybe(pick(0, 3)), maybe(pick(0, 2)));
            case 7 -> call("layAll", flag());
            default -> call("laidShare");
        }
    }

    private void handStep() {
        switch (below(11)) {
            case 0, 1, 2, 3 -> call("tell", aStone(), date(), maybe(below(3) == 0 ? pick(0, 6) : pick(0, 1)));
            case 4 -> call("takeBack", pick(-1, model.time()));
            case 5 -> call("handOn", aStone(), date(), pick(-1, model.time() + 1));
            case 6 -> call("stays", aStone(), pick(-1, model.time() + 1));
            case 7 -> call("stayAt", aStone(), pick(-1, 5), pick(-1, 3));
            case 8 -> call("away", aStone(), date(), date());
            case 9 -> call("fee", aStone(), date(), date());
            default -> call("inHand", maybe(pick(0, 6)), date());
        }
    }

    private void lightStep() {
        switch (below(6)) {
            case 0, 1 -> call("show", aStone(), date(), maybe(below(2) == 0 ? pick(1, 400) : pick(1, 12)),
                    maybe(below(2) == 0 ? pick(1, 1000) : pick(1, 20)));
            case 2 -> call("setLight", aStone(), maybe(below(2) == 0 ? pick(0, 100000) : pick(0, 9000)));
            case 3 -> call("light", aStone(), below(3) == 0 ? pick(1899, 2200) : pick(2022, 2026));
            default -> call("mostDays", aStone(), date(), maybe(below(2) == 0 ? pick(1, 1000) : pick(1, 20)));
        }
    }

    private void offerStep() {
        switch (below(8)) {
            case 0, 1, 2, 3 -> call("offer", maybe(pick(0, 4)), maybe(pick(0, 2)), maybe(pick(0, 2)));
            case 4 -> call("plan");
            case 5 -> call("getsFrom", pick(-1, 8));
            case 6 -> call("rings");
            default -> {
                if (below(6) == 0) {
                    call("clearOffers");
                }
            }
        }
    }

    private void figureStep() {
        switch (below(6)) {
            case 0 -> call("undo");
            case 1 -> call("checksum");
            case 2 -> call("meanValue");
            case 3 -> call("laidShare");
            case 4 -> call("time");
            default -> call("errors");
        }
    }

    private void step() {
        int section = below(3) == 0 ? heavy : below(7);
        if (model.stones() < stonesWanted && below(4) == 0) {
            comeStone();
            return;
        }
        switch (section) {
            case 0 -> stonesStep();
            case 1 -> scratchStep();
            case 2 -> drawerStep();
            case 3 -> handStep();
            case 4 -> lightStep();
            case 5 -> offerStep();
            default -> figureStep();
        }
    }

    private void run() {
        while (calls.size() < mostCalls) {
            step();
        }
    }

    /** A row of changes of one sort, so that the limits of the document are met, and then undo. */
    private void fill() {
        for (int i = 0; i < 12; i++) {
            putText(String.valueOf((char) ('a' + i)));
            call("stone", i % 6, 1 + i % 9, 1 + 7 * i % 90, 1000 * (i % 10));
        }
        for (int i = 0; i < 42; i++) {
            call("scratch", pick(0, 4), pick(5, 9));
        }
        for (int i = 0; i < 62; i++) {
            call("tell", pick(0, 1), date(), pick(0, 6));
        }
        for (int i = 0; i < 22; i++) {
            call("show", pick(0, 9), 20240101 + pick(0, 20), pick(1, 4), 20);
        }
        for (int i = 0; i < 10; i++) {
            call("offer", pick(0, 4), i % 2, 1 - i % 2);
        }
        for (int i = 0; i < 5; i++) {
            call("stays", i % 2, model.time());
            call("nextTest", flag());
            call("plan");
            call("errors");
        }
        for (int i = 0; i < 20; i++) {
            call("undo");
            call("time");
            call("plan");
            call("checksum");
        }
    }

    public static void main(String[] args) {
        int count = 0;
        for (int i = 0; i < 700; i++) {
            seed = 1000 + i;
            new ModelTests(i % 8, 500, i % 8).run();
            count++;
        }
        for (int i = 0; i < 6; i++) {
            seed = 9000 + i;
            new ModelTests(10, 120, i % 3).run();
            count++;
        }
        for (int i = 0; i < 10; i++) {
            seed = 500 + i;
            new ModelTests(0, 0, 0).fill();
            count++;
        }
        System.out.println(count + " runs answered as the model does");
    }
}
