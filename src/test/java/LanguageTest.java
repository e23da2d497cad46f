import java.io.IOException;
import java.lang.reflect.Method;
import java.lang.reflect.Modifier;
import java.nio.charset.StandardCharsets;
import java.nio.file.Files;
import java.nio.file.Path;
import java.util.Arrays;
import java.util.HashSet;
import java.util.Set;
import java.util.TreeSet;
import java.util.regex.Matcher;
import java.util.regex.Pattern;

/** The face of the class, some rules of LANGUAGE.md that can be seen from outside, and the room that calls take. */
public final class LanguageTest {
    private static final String FACE = "status()int top()long bottom()long tray(int,int,int)boolean write(int,int,long)boolean "
            + "read(int,int)long pour(int,int,int,int,int)boolean feed(int,int,int,int,int)int town(int)int centuries(int)int "
            + "fault(int)int many(int)int surname(int,int)int person(int,int)int waiting(int,int)int liked(int,int)int "
            + "copyNames(int)int year(int)int die(int)int birth(int,int)int wed(int,int,int)boolean part(int,int)boolean "
            + "sell(int,int)int swap(int,int)boolean duel(int,int)int abroad(int,boolean)boolean ask(int,int)int "
            + "leave(int)boolean earn(int,int)int rule(int)boolean wish(int,int,int)boolean turn(int)int gone(int)int "
            + "livingIn(int)int bearsIn(int,int)int dashesIn(int)int luck(int,int,int)boolean canWed(int,int,int)int couples()int "
            + "couplesOf(int)int match(int)int suitors(int)int ringed(int)int rings()int trade()int content()int kin(int,int)int "
            + "children(int)int elders(int)int near(int,int)int parents(int)int couldBe(int,int,int)int wealth(int)int "
            + "richest()int buyers(int)int recount(int)int live(int)int lived(int)int mean(int,int)boolean mark()int back()int";

    public static void main(String[] args) throws IOException {
        face();
        source();
        room();
        Check.end();
    }

    private static void face() {
        Set<String> found = new TreeSet<>();
        Set<String> names = new HashSet<>();
        for (Method m : NineNames.class.getDeclaredMethods()) {
            if (Modifier.isPublic(m.getModifiers())) {
                StringBuilder row = new StringBuilder(m.getName()).append('(');
                for (Class<?> type : m.getParameterTypes()) {
                    row.append(row.charAt(row.length() - 1) == '(' ? "" : ",").append(type);
                }
                found.add(row.append(')').append(m.getReturnType()).toString());
                names.add(m.getName());
            }
        }
        Check.due("the face is " + found, found.equals(new TreeSet<>(Arrays.asList(FACE.split(" ")))), true);
        Check.due("public and final", NineNames.class.getModifiers(), Modifier.PUBLIC | Modifier.FINAL);
        Check.due("constructors", NineNames.class.getConstructors().length, 1);
        for (Method m : NineNames.class.getDeclaredMethods()) {
            boolean hidden = Modifier.isPrivate(m.getModifiers()) && !names.contains(m.getName());
            Check.due(m.getName() + " is private or of the face", Modifier.isPublic(m.getModifiers()) || hidden, true);
        }
        Arrays.stream(NineNames.class.getDeclaredFields()).forEach(f -> Check.due(f.getName() + " is private",
                Modifier.isPrivate(f.getModifiers()) || f.getName().equals("NONE"), true));
        for (Class<?> inside : NineNames.class.getDeclaredClasses()) {
            Check.due(inside + " is static", Modifier.isStatic(inside.getModifiers()), true);
            Check.due(inside + " is not public", Modifier.isPublic(inside.getModifiers()), false);
            Check.due(inside + " has some twenty fields at most", Arrays.stream(inside.getDeclaredFields())
                    .filter(f -> !Modifier.isStatic(f.getModifiers())).count() <= 20, true);
            for (Method m : inside.getDeclaredMethods()) {
                Check.due(m + " bears no public name", names.contains(m.getName()), false);
            }
        }
    }

    private static void source() throws IOException {
        String text = Files.readString(Path.of("src/main/java/NineNames.java"), StandardCharsets.ISO_8859_1);
        String bare = text.replaceAll("(?s)/\\*.*?\\*/", "").replaceAll("//[^\n]*", "").replaceAll("\"[^\"\n]*\"", "\"\"");
        Matcher word = Pattern.compile("\\b(throw|throws|try|catch|finally|synchronized|assert|static\\s*\\{|hashCode|toString"
                + "|\\w+Exact|System\\.out|Object|double|float|Random)\\b|->|::|\" \\+|\\+ \"").matcher(bare);
        while (word.find()) {
            Check.due("the source has " + word.group(), 1, 0);
        }
        Check.due("imports", bare.replaceAll("(?m)^(?!import).*$", "").trim().equals("import java.util.Arrays;"), true);
        String[] lines = text.split("\n");
        int from = 0;
        for (int k = 0; k < lines.length; k++) {
            if (lines[k].matches(" {4}( {4})?[\\w\\[\\] ]+\\(.*\\) \\{")) {
                from = k;
            }
            if (lines[k].matches(" {4}( {4})?\\}")) {
                Check.due("the method that ends in line " + (k + 1) + " is short", k - from > 60 && from > 0, false);
                from = 0;
            }
        }
    }

    /** What 512 of the dearest calls make must stay far below the room of one run. */
    private static void room() {
        NineNames x = Check.with("most 2;life 120;name s;name t;person a born 1700 of s;person b born 1750 of t;"
                + "person c born 1760 miser;person d born 1770;waits c for s;likes a t;likes b s;", "loop 99;swap a b;any;end;");
        com.sun.management.ThreadMXBean threads =
                (com.sun.management.ThreadMXBean) java.lang.management.ManagementFactory.getThreadMXBean();
        long before = threads.getThreadAllocatedBytes(Thread.currentThread().getId());
        for (int k = 0; k < 128; k++) {
            x.mean(k, 20);
            x.turn(2);
            x.couples();
            x.rings();
        }
        for (int k = 0; k < 256; k++) {
            x.feed(0x20202020, 0x20202020, 0x20202020, 0x20202020, 0x20202020);
            x.centuries(20);
        }
        long made = threads.getThreadAllocatedBytes(Thread.currentThread().getId()) - before;
        Check.due("bytes made, " + made, made < 200_000, true);
        before = threads.getThreadAllocatedBytes(Thread.currentThread().getId());
        new NineNames();
        made = threads.getThreadAllocatedBytes(Thread.currentThread().getId()) - before;
        Check.due("bytes of a new object, " + made, made < 60_000, true);
    }
}
