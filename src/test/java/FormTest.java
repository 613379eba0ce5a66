import com.sun.management.ThreadMXBean;
import java.lang.management.ManagementFactory;
import java.lang.reflect.Field;
import java.lang.reflect.Modifier;
import java.nio.charset.StandardCharsets;
import java.nio.file.Files;
import java.nio.file.Path;
import java.util.ArrayList;
import java.util.List;
import java.util.regex.Matcher;
import java.util.regex.Pattern;

/** Rules of LANGUAGE.md that can be seen from outside: words, classes, fields, and the room that a run takes. */
public final class FormTest {
    private static final Due DUE = new Due("FormTest");
    private static final String[] FORBIDDEN = {
        "\\b(throw|throws|try|catch|finally|synchronized|assert|import|package|volatile|native|protected)\\b",
        "->", "::", "\\bstatic\\s*\\{", "\\b(equals|hashCode|toString)\\s*\\(", "Exact\\b", "\\?\\s*(extends|super)\\b",
        "\\b(Object|Random|Thread|Exception|Iterator|HashMap|float|double|String)\\b", "System\\.(?!arraycopy\\()",
        "\\bpublic static (?!final int)", "[^\\x00-\\x7f]"
    };

    public static void main(String[] args) throws Exception {
        words();
        List<Class<?>> all = new ArrayList<>(List.of(KingsBanquet.class));
        all.addAll(List.of(KingsBanquet.class.getDeclaredClasses()));
        DUE.is("at most 12 classes", all.size() <= 12 ? 1 : 0, 1);
        for (Class<?> each : all) {
            fields(each);
        }
        roomOfAnObject();
        roomOfCalls();
        DUE.end();
    }

    private static void words() throws Exception {
        String source = Files.readString(Path.of("src/main/java/KingsBanquet.java"), StandardCharsets.UTF_8);
        String code = source.replaceAll("(?s)/\\*.*?\\*/", "").replaceAll("//[^\n]*", "").replaceAll("'[^'\n]*'", "0");
        for (String word : FORBIDDEN) {
            Matcher matcher = Pattern.compile(word).matcher(code);
            String found = matcher.find() ? matcher.group() : "";
            DUE.is("forbidden '" + found + "'", found.isEmpty() ? 0 : 1, 0);
        }
        for (String line : source.split("\n")) {
            DUE.is("a long line: " + line, line.length() <= 120 ? 1 : 0, 1);
        }
    }

    private static void fields(Class<?> owner) {
        int own = 0;
        for (Field field : owner.getDeclaredFields()) {
            boolean isStatic = Modifier.isStatic(field.getModifiers());
            own += isStatic ? 0 : 1;
            boolean isConstant = Modifier.isFinal(field.getModifiers()) && field.getType() == int.class;
            DUE.is(field + " is a constant", isStatic && !isConstant ? 1 : 0, 0);
        }
        DUE.is(owner + " has at most 20 fields", own <= 20 ? 1 : 0, 1);
    }

    /** 512 objects, the most that the calls of a run could make, fit well into the room of a run. */
    private static void roomOfAnObject() {
        KingsBanquet[] all = new KingsBanquet[512];
        long before = allocated();
        for (int at = 0; at < all.length; at++) {
            all[at] = new KingsBanquet();
        }
        long each = (allocated() - before) / all.length;
        DUE.is("an object takes " + each + " bytes", each < 16000 ? 1 : 0, 1);
    }

    private static void roomOfCalls() {
        calls(new KingsBanquet());
        KingsBanquet x = new KingsBanquet();
        long before = allocated();
        calls(x);
        long more = allocated() - before;
        DUE.is("500 calls take " + more + " bytes more", more < 2000 ? 1 : 0, 1);
    }

    private static void calls(KingsBanquet x) {
        for (int call = 0; call < 20; call++) {
            x.announce(1 + call % 9, call, call);
            x.set(1, 1 + call % 3);
            x.pass(1);
            x.send(call % 4);
            x.leave(call / 2);
            x.type("k5.5@999;.1;l20".charAt(call % 15));
            x.perform();
            x.stopped(0);
            x.keep();
            x.restore();
            x.undo();
            x.king(0, 4);
            x.seat(0);
            x.waits(0);
            x.reason(0, 1);
            x.dueIn(call);
            x.dueSeat(5, 5);
            x.wrongPairs();
            x.changesNeeded();
            x.mostSlighted();
            x.ifRounds(30);
            x.nextArrival();
            x.count(8);
            x.clearText();
        }
    }

    private static long allocated() {
        ThreadMXBean threads = (ThreadMXBean) ManagementFactory.getThreadMXBean();
        return threads.getThreadAllocatedBytes(Thread.currentThread().getId());
    }
}
