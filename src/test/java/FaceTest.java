import java.lang.reflect.Constructor;
import java.lang.reflect.Field;
import java.lang.reflect.Member;
import java.lang.reflect.Method;
import java.lang.reflect.Modifier;
import java.nio.file.Files;
import java.nio.file.Path;
import java.util.Set;
import java.util.TreeSet;
import java.util.regex.Matcher;
import java.util.regex.Pattern;

/** The document's public face, and those rules of LANGUAGE.md that a test can see. Run from the project's root. */
public final class FaceTest {
    private static final Due due = new Due();
    private static final String[] FACE = {
        "int market(int,int,int,int)", "int ofMorning(int,int)", "int ofPerson(int,int)", "int fill(int,int)", "int rate(int)",
        "int fresh(int,int)", "int price(int)", "int sell(int,int)", "int open(int)", "int sleep(int)",
        "int year(int,int,int,int,int)", "int feast(int)", "int keep(int,int,int)", "int buy(int,int,int)", "int debt(int,int,int)",
        "int swap(int)", "int reading(int,int,int)", "int back(int)", "int dews(int)", "int kinds(int)", "int takens(int)",
        "long odds(int,int,int)", "int sheet(int,int,int)", "int lose(int)", "int put(int,int,int)", "long cell(int,int,int)",
        "int copy(int,int,int,int,int)", "int tell(int)", "int crow(int)", "int as(int,int)", "int trace()", "int fault()", "int many(int)"};

    public static void main(String[] args) throws Exception {
        constants();
        face();
        nestedClasses();
        source(Files.readString(Path.of("src/main/java/MornMarket.java")));
        due.end();
    }

    private static void constants() {
        due.is("UNKNOWN", MornMarket.UNKNOWN, -1);
        due.is("OUTSIDE", MornMarket.OUTSIDE, -2);
        due.is("STATE", MornMarket.STATE, -3);
        due.is("FULL", MornMarket.FULL, -4);
        due.is("NONE", MornMarket.NONE, -9);
        due.is("LOST", MornMarket.LOST, Long.MIN_VALUE);
    }

    private static void holds(String rule, boolean is) {
        due.is(rule, is ? 1 : 0, 1);
    }

    private static boolean isHidden(Member member) {
        return Modifier.isPrivate(member.getModifiers()) || member.isSynthetic();
    }

    private static void face() {
        Set<String> wanted = new TreeSet<>(Set.of(FACE));
        Set<String> names = new TreeSet<>();
        Set<String> seen = new TreeSet<>();
        for (Method method : MornMarket.class.getDeclaredMethods()) {
            if (!Modifier.isPublic(method.getModifiers())) continue;
            StringBuilder told = new StringBuilder(method.getReturnType() + " " + method.getName() + "(");
            for (Class<?> type : method.getParameterTypes()) told.append(told.charAt(told.length() - 1) == '(' ? "" : ",").append(type);
            seen.add(told.append(')').toString());
            names.add(method.getName());
        }
        holds("the public methods are those of the document", wanted.equals(seen));
        for (Class<?> own : allClasses()) {
            for (Method method : own.getDeclaredMethods()) {
                boolean open = own == MornMarket.class && Modifier.isPublic(method.getModifiers());
                holds(method + " is hidden", own != MornMarket.class || open || isHidden(method));
                holds(method + " does not bear a public one's name", open || !names.contains(method.getName()));
                holds(method + " takes seven at most", method.getParameterCount() <= 7);
            }
        }
        for (Field field : MornMarket.class.getDeclaredFields()) {
            boolean constant = Set.of("UNKNOWN", "OUTSIDE", "STATE", "FULL", "NONE", "LOST").contains(field.getName());
            holds(field + " is as the document has it", constant == Modifier.isPublic(field.getModifiers()) && (constant || isHidden(field)));
            holds(field + ", if static, is final", !Modifier.isStatic(field.getModifiers()) || Modifier.isFinal(field.getModifiers()));
        }
        for (Constructor<?> made : MornMarket.class.getDeclaredConstructors()) {
            holds("one public constructor", Modifier.isPublic(made.getModifiers()) && made.getParameterCount() == 0);
        }
        holds("the class is final", Modifier.isFinal(MornMarket.class.getModifiers()));
    }

    private static Set<Class<?>> allClasses() {
        Set<Class<?>> all = new java.util.LinkedHashSet<>(Set.of(MornMarket.class.getDeclaredClasses()));
        all.add(MornMarket.class);
        return all;
    }

    private static void nestedClasses() {
        holds("some twelve classes at most", allClasses().size() <= 12);
        for (Class<?> own : allClasses()) {
            int fields = 0;
            for (Field field : own.getDeclaredFields()) fields += Modifier.isStatic(field.getModifiers()) ? 0 : 1;
            holds(own + " has some twenty fields at most", fields <= 20);
            if (own == MornMarket.class) continue;
            holds(own + " is static", Modifier.isStatic(own.getModifiers()));
            holds(own + " is not public", !Modifier.isPublic(own.getModifiers()) && !Modifier.isProtected(own.getModifiers()));
        }
    }

    private static void source(String text) {
        String code = text.replaceAll("(?s)/\\*.*?\\*/", "").replaceAll("//[^\n]*", "");
        String[] words = {"throw", "throws", "try", "catch", "synchronized", "assert", "package", "System\\.(?!arraycopy)\\w+", "Random", "Thread",
            "hashCode", "toString", "Object"};
        for (String word : words) {
            holds("no " + word, !Pattern.compile("\\b" + word + (word.endsWith("+") ? "" : "\\b")).matcher(code).find());
        }
        holds("no lambda", !code.contains("->"));
        holds("no method reference", !code.contains("::"));
        holds("signs 1 to 127 alone", text.chars().allMatch(sign -> sign >= 1 && sign <= 127));
        Matcher imports = Pattern.compile("import ([^;]*);").matcher(code);
        while (imports.find()) holds("import of " + imports.group(1), imports.group(1).equals("java.util.Arrays"));
        methodsAreShort(text.split("\n"));
        callsMakeNothing(code.split("\n"));
    }

    /** All calls of a run live in one room, so objects and rows are made as fields and by the constructor alone. */
    private static void callsMakeNothing(String[] lines) {
        Pattern made = Pattern.compile("\\s+(private )?final \\S+ \\w+ = new .*;|\\s+sheets\\[k\\] = new Sheet\\(\\);");
        for (String line : lines) {
            if (line.matches(".*\\b(new|clone|copyOf|copyOfRange)\\b.*")) holds("made ahead of all calls: " + line, made.matcher(line).matches());
        }
    }

    private static void methodsAreShort(String[] lines) {
        Pattern begins = Pattern.compile("( {4}| {8})(?!for |if |while |switch |\\}|/)\\S.*\\) \\{");
        int begun = 0;
        int methods = 0;
        for (int k = 0; k < lines.length; k++) {
            if (begins.matcher(lines[k]).matches()) {
                begun = k;
                methods++;
            }
            if (lines[k].matches("( {4}| {8})\\}")) holds("the method above line " + (k + 1) + " is short", k - begun < 60);
        }
        holds("methods were seen", methods > FACE.length);
    }
}
