import java.io.IOException;
import java.lang.management.ManagementFactory;
import java.lang.reflect.Field;
import java.lang.reflect.Method;
import java.lang.reflect.Modifier;
import java.nio.file.Files;
import java.nio.file.Path;
import java.util.Arrays;
import java.util.HashSet;
import java.util.Set;
import java.util.TreeSet;
import java.util.regex.Matcher;
import java.util.regex.Pattern;

/** The document's face, and those rules of LANGUAGE.md that can be seen from outside. Takes the source's path. */
public final class RulesTest {
    private static final Due DUE = new Due("RulesTest");

    private static final String[] FACE = {
        "int write(int)", "int wipe()", "int fault()", "int telling()", "int about(int)", "int person(int,int)",
        "int plan(int)", "int knows(int,int)", "int last(int)", "int move(int,int)", "int change(int)", "int quicken()",
        "int set(int,int,int)", "int undo()", "long number(int,int)", "int soon(int,int)", "int knowers(int,int)",
        "int judge(int,long)", "int see(int,int)", "int unsee()", "int which(int)", "int share(int,boolean)",
        "int chance(int,int,boolean)", "long seed(long)", "int drawn(int)", "int keep(int)", "int again(int)"
    };

    /** An arrow, but for one of a switch. */
    private static final String LAMBDA = "(?m)^(?!\\s*(case\\b|default\\b)).*->";

    private static final String[] FORBIDDEN = {
        "package", "throw", "throws", "try", "catch", "finally", "synchronized", "assert", "volatile", "native", "Thread",
        "Object", "Random", "System\\.(?!arraycopy\\b)\\w+", "\\w+Exact", LAMBDA, "::", "new \\w+\\([^)]*\\)\\s*\\{",
        "(?<!=\\s?)static\\s*\\{", "import (?!java\\.util\\.(ArrayList|List|Arrays|Iterator|\\*);)"
    };

    public static void main(String[] args) throws IOException {
        face();
        members();
        String source = Files.readString(Path.of(args.length > 0 ? args[0] : "src/main/java/LateLetters.java"));
        words(withoutRemarks(source));
        lengths(withoutRemarks(source));
        room();
        DUE.end();
    }

    private static String signature(Method m) {
        StringBuilder b = new StringBuilder(m.getReturnType().getName()).append(' ').append(m.getName()).append('(');
        for (int i = 0; i < m.getParameterCount(); i++) {
            b.append(i == 0 ? "" : ",").append(m.getParameterTypes()[i].getName());
        }
        return b.append(')').toString();
    }

    private static void face() {
        Set<String> there = new TreeSet<>();
        for (Method m : LateLetters.class.getDeclaredMethods()) {
            if (Modifier.isPublic(m.getModifiers())) {
                there.add(signature(m));
                DUE.holds(m + " is no static one", !Modifier.isStatic(m.getModifiers()));
            }
        }
        DUE.holds("the face is " + there, there.equals(new TreeSet<>(Arrays.asList(FACE))));
        DUE.holds("public and final", LateLetters.class.getModifiers() == (Modifier.PUBLIC | Modifier.FINAL));
        DUE.is("constructors", LateLetters.class.getDeclaredConstructors().length, 1);
        DUE.is("public constructors", LateLetters.class.getConstructors().length, 1);
        int[][] constants = {
            {LateLetters.UNKNOWN, -1}, {LateLetters.BAD, -2}, {LateLetters.LATE, -3}, {LateLetters.FULL, -4}, {LateLetters.NONE, -9}
        };
        for (int[] one : constants) {
            DUE.is("a constant", one[0], one[1]);
        }
        DUE.is("public fields", LateLetters.class.getFields().length, constants.length);
    }

    private static void members() {
        Set<String> named = new HashSet<>();
        for (String one : FACE) {
            named.add(one.substring(one.indexOf(' ') + 1, one.indexOf('(')));
        }
        Class<?>[] inside = LateLetters.class.getDeclaredClasses();
        DUE.holds("rule 11: classes", inside.length + 1 <= 12);
        for (Field f : LateLetters.class.getDeclaredFields()) {
            DUE.holds("rule 1: " + f, Modifier.isPrivate(f.getModifiers()) || Modifier.isPublic(f.getModifiers()));
        }
        for (Method m : LateLetters.class.getDeclaredMethods()) {
            boolean isPrivate = Modifier.isPrivate(m.getModifiers());
            DUE.holds("rule 1: " + m, isPrivate ? !named.contains(m.getName()) : Modifier.isPublic(m.getModifiers()));
        }
        membersOf(LateLetters.class);
        for (Class<?> one : inside) {
            DUE.holds("rule 2: " + one, Modifier.isStatic(one.getModifiers()) && !Modifier.isPublic(one.getModifiers()));
            for (Method m : one.getDeclaredMethods()) {
                DUE.holds("rule 1: " + m, !Modifier.isPrivate(m.getModifiers()) || !named.contains(m.getName()));
            }
            membersOf(one);
        }
    }

    private static void membersOf(Class<?> one) {
        int fields = 0;
        for (Field f : one.getDeclaredFields()) {
            if (Modifier.isStatic(f.getModifiers())) {
                DUE.holds("rule 5: " + f, Modifier.isFinal(f.getModifiers()));
                boolean fits = Arrays.asList("int", "long", "boolean", "char", "String", "int[]", "long[]", "char[]", "byte[]")
                    .contains(f.getType().getSimpleName());
                DUE.holds("rule 5: " + f, fits);
            } else {
                fields++;
            }
        }
        DUE.holds("rule 11: fields of " + one, fields <= 20);
        for (Method m : one.getDeclaredMethods()) {
            DUE.holds("rule 11: parameters of " + m, m.getParameterCount() <= 7);
        }
    }

    private static String withoutRemarks(String source) {
        return source.replaceAll("(?s)/\\*.*?\\*/", "").replaceAll("//[^\n]*", "");
    }

    private static void words(String source) {
        for (String one : FORBIDDEN) {
            String pattern = Character.isLetter(one.charAt(0)) ? "\\b" + one + (one.matches("\\w+") ? "\\b" : "") : one;
            Matcher m = Pattern.compile(pattern).matcher(source);
            DUE.holds("not allowed: " + one, !m.find());
        }
    }

    /** From the head of each method to the brace that closes it, both by how far they stand in. */
    private static void lengths(String source) {
        int begun = -1;
        String end = "";
        String[] lines = source.split("\n");
        for (int i = 0; i < lines.length; i++) {
            if (begun < 0 && lines[i].matches("\\s+[\\w\\[\\] ]+\\([^;]*\\) \\{") && !lines[i].matches("\\s+(if|for|while|switch|else).*")) {
                begun = i;
                end = lines[i].replaceAll("\\S.*", "") + "}";
            } else if (begun >= 0 && lines[i].equals(end)) {
                DUE.holds("rule 11: lines " + lines[begun], i - begun + 1 <= 60);
                begun = -1;
            }
        }
    }

    /** All calls of a run live in one room, of 7.3 million fields and elements: 512 calls may make no more than that. */
    private static final long ROOM = 4L * 7_300_000;

    private static void room() {
        com.sun.management.ThreadMXBean threads = (com.sun.management.ThreadMXBean) ManagementFactory.getThreadMXBean();
        long self = Thread.currentThread().getId();
        String[] texts = {"T382152413111618294t20t72t10t37t40t51t64", "T36315211413111t10t21t32t43t54"};
        for (String text : texts) {
            manyCalls(text);
            long before = threads.getThreadAllocatedBytes(self);
            manyCalls(text);
            long made = threads.getThreadAllocatedBytes(self) - before;
            DUE.holds("rule 12: bytes made by some 500 calls: " + made, made < ROOM);
        }
    }

    /** 42 calls, then 8 times 57: less than 512. */
    private static long manyCalls(String text) {
        LateLetters x = Due.told(text);
        long sum = 0;
        for (int i = 0; i < 8; i++) {
            sum += x.fault() + x.write('T') + x.telling() + x.plan(i) + x.last(0) + x.knows(1, 1);
            for (int what = 0; what < 9; what++) {
                sum += x.about(what) + x.person(i % 6, what);
            }
            sum += x.move(1 + i % 5, i % 6) + x.change(i % 5) + x.set(0, 0, 1 + i % 9) + x.quicken() + x.undo();
            sum += x.number(0, 60) + x.soon(0, 99999) + x.knowers(0, 9) + x.judge(4, 300411711509L);
            sum += x.see(1, 4) + x.which(1) + x.unsee() + x.chance(4, 3, false) + x.seed(9) + x.keep(0) + x.again(0);
            for (int p = 0; p < 6; p++) {
                sum += x.share(p, true) + x.drawn(40);
            }
        }
        return sum;
    }
}
