import java.io.ByteArrayOutputStream;
import java.io.IOException;
import java.io.PrintStream;
import java.lang.reflect.InvocationTargetException;
import java.lang.reflect.Method;
import java.lang.reflect.Modifier;
import java.net.URL;
import java.net.URLClassLoader;
import java.nio.charset.StandardCharsets;
import java.nio.file.Files;
import java.nio.file.Path;
import java.util.Arrays;
import java.util.Comparator;
import java.util.Map;
import java.util.NoSuchElementException;
import java.util.TreeMap;
import java.util.TreeSet;
import java.util.regex.Matcher;
import java.util.regex.Pattern;
import java.util.stream.Stream;
import javax.tools.ToolProvider;

/** README.md holds: its program prints what it says, refused calls answer what it says, all tests are named. */
public final class ReadmeTest {
    private final Path root;
    private final String page;

    private ReadmeTest(Path root) throws IOException {
        this.root = root;
        page = Files.readString(root.resolve("README.md"), StandardCharsets.UTF_8);
    }

    private String block(String kind) {
        Matcher block = Pattern.compile("```" + kind + "\n(.*?)```", Pattern.DOTALL).matcher(page);
        Due.is("README.md has a block of " + kind, true, block.find());
        return block.group(1);
    }

    // ---- the program

    private static String printedBy(Method main) throws Exception {
        PrintStream before = System.out;
        ByteArrayOutputStream printed = new ByteArrayOutputStream();
        System.setOut(new PrintStream(printed, true, StandardCharsets.UTF_8));
        try {
            main.invoke(null, (Object) new String[0]);
        } finally {
            System.setOut(before);
        }
        return printed.toString(StandardCharsets.UTF_8).replace("\r\n", "\n");
    }

    private void program() throws Exception {
        Path out = Files.createTempDirectory("readme");
        try {
            Path source = out.resolve("Example.java");
            Files.writeString(source, block("java"), StandardCharsets.UTF_8);
            int failed = ToolProvider.getSystemJavaCompiler().run(null, null, null, "-d", out.toString(),
                    root.resolve("src/main/java/StrikeAwake.java").toString(), source.toString());
            Due.is("the program's errors", 0, failed);
            try (URLClassLoader loader = new URLClassLoader(new URL[] {out.toUri().toURL()},
                    ClassLoader.getPlatformClassLoader())) {
                Method main = loader.loadClass("Example").getMethod("main", String[].class);
                lines(block("text").split("\n"), printedBy(main).split("\n"));
            }
        } finally {
            removeAll(out);
        }
    }

    private static void lines(String[] want, String[] got) {
        Due.is("lines that the program prints", want.length, got.length);
        for (int k = 0; k < Math.min(want.length, got.length); k++) {
            Due.is("README.md says \"" + want[k] + "\", printed was \"" + got[k] + "\"", true, want[k].equals(got[k]));
        }
    }

    private static void removeAll(Path folder) throws IOException {
        try (Stream<Path> files = Files.walk(folder)) {
            for (Path file : files.sorted(Comparator.reverseOrder()).toList()) {
                Files.delete(file);
            }
        }
    }

    // ---- refused calls

    /** Each call of the table with the answer that stands behind it. */
    private Map<String, String> refusals() {
        Map<String, String> answers = new TreeMap<>();
        Matcher row = Pattern.compile("(?m)^\\| ((?:`[a-zA-Z]+` ?)+)\\| (\\S+).*\\|$").matcher(page);
        while (row.find()) {
            for (String name : row.group(1).replace("`", "").trim().split(" ")) {
                Due.is("README.md tells of " + name + " once", false, answers.containsKey(name));
                answers.put(name, row.group(2));
            }
        }
        return answers;
    }

    /** The answer of a call with noughts on a new object, behind it TROUBLE; "throws" of one that throws. */
    private static String answerOf(Method call) throws Exception {
        StrikeAwake x = new StrikeAwake();
        Object[] noughts = new Object[call.getParameterCount()];
        for (int k = 0; k < noughts.length; k++) {
            Class<?> type = call.getParameterTypes()[k];
            noughts[k] = type == boolean.class ? (Object) false : type == long.class ? (Object) 0L : (Object) 0;
        }
        try {
            return call.invoke(x, noughts) + (x.trouble() == 0 ? "" : " refused");
        } catch (InvocationTargetException e) {
            return e.getCause() instanceof NoSuchElementException ? "throws" : e.toString();
        }
    }

    private void refused() throws Exception {
        Map<String, String> answers = refusals();
        TreeSet<String> others = new TreeSet<>(Arrays.asList("feed", "size", "led", "fault", "where", "trouble"));
        for (Method call : StrikeAwake.class.getDeclaredMethods()) {
            if (Modifier.isPublic(call.getModifiers())) {
                String name = call.getName();
                String got = answerOf(call);
                if (others.remove(name)) {
                    Due.is(name + " answers " + got, false, answers.containsKey(name) || got.endsWith(" refused"));
                    Due.is(name + " answers " + got, name.equals("led"), got.equals("throws"));
                } else {
                    Due.is(name + " answers " + got, true, got.equals(answers.remove(name) + " refused"));
                }
            }
        }
        Due.is("calls that README.md tells of and that there aren't: " + answers.keySet(), 0, answers.size());
        Due.is("calls without TROUBLE that there aren't: " + others, 0, others.size());
    }

    // ---- what an object is good for

    /** The most calls that the page speaks of are all answered as the first one is. */
    private void lasts() {
        Matcher number = Pattern.compile("For (\\d+) calls after it has been made").matcher(page);
        Due.is("README.md tells for how many calls an object is good", true, number.find());
        Due.is("for how many calls", 512, Integer.parseInt(number.group(1)));
        String text = "law hours 2 beside 0 off 0;person a bed 0 to 1 long 1 to 1;struck 1 is 1";
        StrikeAwake x = Texts.with(text);
        int made = (text.length() + 19) / 20 + 1;
        while (made < 511) {
            Due.is("worlds() as call " + (made + 1), 1, x.worlds());
            made++;
        }
        Due.is("trouble() as the last call", 0, x.trouble());
    }

    // ---- the tests

    private void named() throws IOException {
        try (Stream<Path> files = Files.list(root.resolve("src/test/java"))) {
            for (Path file : files.sorted().toList()) {
                String name = file.getFileName().toString().replace(".java", "");
                if (name.endsWith("Test")) {
                    Due.is("README.md names " + name, true, page.contains("- `" + name + "`: "));
                }
            }
        }
        Due.is(".ci/run can be run", true, Files.isExecutable(root.resolve(".ci/run")));
        Due.is("README.md names .ci/run", true, page.contains("```sh\n.ci/run\n```"));
    }

    public static void main(String[] args) throws Exception {
        ReadmeTest test = new ReadmeTest(Path.of(args.length > 0 ? args[0] : "."));
        test.program();
        test.refused();
        test.lasts();
        test.named();
        Due.end("ReadmeTest");
    }
}
