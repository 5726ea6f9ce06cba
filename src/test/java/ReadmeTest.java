import java.io.File;
import java.nio.file.Files;
import java.nio.file.Path;
import java.util.regex.Matcher;
import java.util.regex.Pattern;
import javax.tools.ToolProvider;

/** The Java of README.md is compiled as it stands there; each call must answer what is written behind it. */
public final class ReadmeTest {
    private static final Pattern BLOCK = Pattern.compile("```java\n(.*?)```", Pattern.DOTALL);
    private static final Pattern ASKED = Pattern.compile("^(\\S.*);\\s+// ([^\\s:]+).*$");
    /** Fewer would mean that the page is no longer read as it is written. */
    private static final int LEAST = 40;
    private static final String HEAD = """
        public final class ReadmeRun {
            static int wrong = 0;
            static long bits(double d) { return Double.doubleToRawLongBits(d); }
            static double number(long b) { return Double.longBitsToDouble(b); }
            static void due(String call, Object got, Object want) {
                if (!got.equals(want)) {
                    wrong++;
                    System.out.println("README.md: " + call + " answered " + got + ", due is " + want);
                }
            }
            static void due(String call, long got, String want) {
                due(call, (Object) Long.toString(got), want);
            }
            static void due(String call, double got, String want) {
                due(call, (Object) got, Double.valueOf(want));
            }
            static void due(String call, boolean got, String want) {
                due(call, (Object) Boolean.toString(got), want);
            }
            public static void main(String[] args) {
        """;
    private static final String FOOT = "if (wrong != 0) { System.exit(1); }\n}\n}\n";

    public static void main(String[] args) throws Exception {
        StringBuilder text = new StringBuilder(HEAD);
        int asked = 0;
        Matcher block = BLOCK.matcher(Files.readString(Path.of("README.md")));
        while (block.find()) {
            for (String line : block.group(1).split("\n")) {
                Matcher call = ASKED.matcher(line);
                if (call.matches()) {
                    asked++;
                    text.append("due(\"").append(call.group(1)).append("\", ").append(call.group(1))
                        .append(", \"").append(call.group(2)).append("\");\n");
                } else {
                    text.append(line).append('\n');
                }
            }
        }
        boolean fine = asked >= LEAST && runs(text.append(FOOT).toString());
        System.out.println("ReadmeTest: " + asked + (fine ? " answers as due" : " answers asked for, FAILED"));
        if (!fine) {
            System.exit(1);
        }
    }

    private static boolean runs(String text) throws Exception {
        Path made = Files.createTempDirectory("readme");
        Path source = made.resolve("ReadmeRun.java");
        Files.writeString(source, text);
        int failed = ToolProvider.getSystemJavaCompiler().run(null, null, null,
            "-d", made.toString(), "src/main/java/LensBench.java", source.toString());
        if (failed == 0) {
            failed = new ProcessBuilder("java", "-cp", made.toString(), "ReadmeRun").inheritIO().start().waitFor();
        }
        File[] inside = made.toFile().listFiles();
        for (File file : inside == null ? new File[0] : inside) {
            file.delete();
        }
        return made.toFile().delete() && failed == 0;
    }
}
