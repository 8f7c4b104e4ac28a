import java.io.IOException;
import java.lang.management.ManagementFactory;
import java.lang.reflect.Field;
import java.lang.reflect.Method;
import java.lang.reflect.Modifier;
import java.nio.file.Files;
import java.nio.file.Path;
import java.util.Arrays;
import java.util.Set;
import java.util.TreeSet;
import java.util.regex.Matcher;
import java.util.regex.Pattern;
import java.util.stream.Collectors;

/** The face as the document writes it, and those rules of LANGUAGE.md that can be seen from the text or the room used. */
public final class LanguageTests {
    private static final String FACE = """
        append(int,int,int,int,int):int clearTape():int errorPosition():int stone(int,int,int,int):int stones():int
        stoneOf(int,int):int scratch(int,int):int unscratch(int):int ring():int ringAt(int):int orders():int
        rank(int,boolean):int withRank(int,int):int harder(int,int):int shareOf(int,int,boolean):int
        nextTest(boolean):int orderAt(int):int setDrawer(int,int,int):int part(int,int,boolean):boolean
        lay(int,int):int lies(int,int):int layAll(boolean):int tell(int,int,int):int takeBack(int):int time():int
        handOn(int,int,int):int stays(int,int):int stayAt(int,int,int):int away(int,int,int):int
        fee(int,int,int):long inHand(int,int):int setLight(int,int):int show(int,int,int,int):int light(int,int):int
        mostDays(int,int,int):int offer(int,int,int):int clearOffers():int plan():int getsFrom(int):int rings():int
        join():int write():int writtenAt(int):char undo():int checksum():int meanValue():double laidShare():float
        errors():int""";
    private static final String[] FORBIDDEN = {"->", "::", "\\btry\\b", "\\bcatch\\b", "\\bfinally\\b",
        "\\bsynchronized\\b", "\\bassert\\b", "\\bpackage\\b", "\\bthrow [a-z]+;", "\\bMath\\.\\w*Exact\\b",
        "\\bstatic \\{", "\\bSystem\\.(?!arraycopy)", "\\bvar\\b", "\\bObject\\b", "\\bMap\\b", "\\bNaN\\b",
        "\" \\+|\\+ \"", "\\bprotected\\b", "\\[\\]\\[\\]\\[\\]", "while \\(true\\)", "for \\(;;\\)"};

    private static int wrong = 0;

    private static void due(String what, boolean isSo) {
        if (!isSo) {
            wrong++;
            System.out.println("not so: " + what);
        }
    }

    private static String told(Method method) {
        return method.getName() + Arrays.stream(method.getParameterTypes()).map(Class::getName)
                .collect(Collectors.joining(",", "(", ")")) + ":" + method.getReturnType().getName();
    }

    private static void lookAtFace() {
        Set<String> due = new TreeSet<>(Arrays.asList(FACE.trim().split("\\s+")));
        Set<String> names = due.stream().map(m -> m.substring(0, m.indexOf('('))).collect(Collectors.toSet());
        Set<String> got = new TreeSet<>();
        for (Method method : Stonecabinet.class.getDeclaredMethods()) {
            if (Modifier.isPrivate(method.getModifiers())) {
                due("private " + method.getName() + " bears no public name", !names.contains(method.getName()));
            } else {
                due("public " + method, Modifier.isPublic(method.getModifiers()) && !Modifier.isStatic(method.getModifiers()));
                got.add(told(method));
            }
        }
        due("the face is " + due + ", not " + got, due.equals(got));
        for (Field field : Stonecabinet.class.getDeclaredFields()) {
            boolean isFace = field.getName().equals("NONE");
            due("field " + field, isFace == Modifier.isPublic(field.getModifiers())
                    && (isFace || Modifier.isPrivate(field.getModifiers())));
        }
        due("the class is public and final",
                (Stonecabinet.class.getModifiers() & (Modifier.PUBLIC | Modifier.FINAL)) == (Modifier.PUBLIC | Modifier.FINAL));
        due("one public constructor", Stonecabinet.class.getDeclaredConstructors().length == 1
                && Stonecabinet.class.getConstructors().length == 1);
        for (Class<?> inside : Stonecabinet.class.getDeclaredClasses()) {
            due(inside + " is private and static", Modifier.isPrivate(inside.getModifiers()) && Modifier.isStatic(inside.getModifiers()));
            for (Method method : inside.getDeclaredMethods()) {
                due(inside + "." + method.getName() + " bears no public name", !names.contains(method.getName()));
                due(method + " takes at most 7", method.getParameterCount() <= 7);
            }
            lookAtFields(inside);
        }
        lookAtFields(Stonecabinet.class);
        due("at most 12 classes", Stonecabinet.class.getDeclaredClasses().length < 12);
    }

    private static void lookAtFields(Class<?> type) {
        int own = 0;
        for (Field field : type.getDeclaredFields()) {
            if (Modifier.isStatic(field.getModifiers())) {
                due(field + " is final", Modifier.isFinal(field.getModifiers()));
            } else {
                own++;
            }
        }
        due(type + " has at most 20 fields", own <= 20);
    }

    private static void lookAtText(String source) {
        String bare = source.replaceAll("(?s)/\\*.*?\\*/", "").replaceAll("//[^\n]*", "");
        for (String forbidden : FORBIDDEN) {
            Matcher matcher = Pattern.compile(forbidden).matcher(bare);
            due("nothing like " + forbidden + " stands in the program", !matcher.find());
        }
        Matcher imports = Pattern.compile("import ([^;]+);").matcher(bare);
        while (imports.find()) {
            due("import " + imports.group(1), Set.of("java.util.Arrays", "java.util.List", "java.util.ArrayList").contains(imports.group(1)));
        }
        due("signs 1 to 127 alone", source.chars().allMatch(sign -> sign >= 1 && sign <= 127));
        int length = 0;
        for (String line : source.split("\n")) {
            boolean isHead = line.matches(" {4,8}[a-z].*\\(.*") && !line.endsWith(";");
            length = isHead ? 1 : length + 1;
            due("a method ends within 60 lines at: " + line, !line.matches(" {4,8}}") || length <= 60);
        }
    }

    /** Each line of the face stands in the program just so: names, types, parameters and what is thrown. */
    private static void lookAtDocument(String document, String source) {
        Matcher block = Pattern.compile("(?s)public final class Stonecabinet \\{\n(.*?)\n}").matcher(document);
        String text = source.replaceAll("\\s+", " ");
        int lines = 0;
        if (block.find()) {
            for (String line : block.group(1).split("\n")) {
                String head = line.trim();
                boolean isConstant = head.contains(" = ");
                String due = isConstant ? head : head.substring(0, head.length() - 1) + " {";
                due("'" + head + "' stands in the program", text.contains(due));
                lines++;
            }
        }
        int told = text.split(" public (?!final class )", -1).length - 1;
        due("the program has the " + lines + " lines of the face and no other, not " + told, lines > 1 && lines == told);
    }

    /** Some 7.3 million elements are 4 bytes each; here a whole run takes far less than that. */
    private static void lookAtRoom() {
        com.sun.management.ThreadMXBean threads = (com.sun.management.ThreadMXBean) ManagementFactory.getThreadMXBean();
        long thread = Thread.currentThread().getId();
        longRun();
        long before = threads.getThreadAllocatedBytes(thread);
        longRun();
        long bytes = threads.getThreadAllocatedBytes(thread) - before;
        due("a run of 512 calls takes less than 200000 bytes, not " + bytes, bytes < 200000);
    }

    private static void longRun() {
        Stonecabinet x = new Stonecabinet();
        for (int i = 0; i < 10; i++) {
            x.append('a' + i, 0, 0, 0, 0);
            x.stone(i % 6, 1, 1, 1000);
        }
        for (int i = 0; i < 60; i++) {
            x.scratch(i % 9, 9);
            x.unscratch(0);
            x.layAll(i % 2 == 0);
            x.tell(i % 10, 20240101 + i % 28, i % 7);
            x.nextTest(true);
            x.errors();
            x.plan();
            x.write();
        }
    }

    public static void main(String[] args) throws IOException {
        lookAtFace();
        String source = Files.readString(Path.of(args.length > 0 ? args[0] : "src/main/java/Stonecabinet.java"));
        lookAtText(source);
        lookAtDocument(Files.readString(Path.of("../shared/DOC.md")), source);
        lookAtRoom();
        System.out.println(wrong == 0 ? "face, language and room are as due" : wrong + " things are not as due");
        if (wrong != 0) {
            System.exit(1);
        }
    }
}
