import java.io.File;
import java.io.IOException;
import java.nio.file.Files;
import java.nio.file.Path;
import java.util.regex.Matcher;
import java.util.regex.Pattern;

/** The example of README.md is compiled, run, and prints what README.md says. Runs from the project's folder. */
public final class ReadmeTest {
    private static final Due DUE = new Due("ReadmeTest");

    public static void main(String[] args) throws IOException, InterruptedException {
        String readme = Files.readString(Path.of("README.md"));
        Path folder = Files.createTempDirectory("readme");
        try {
            String printed = printedBy(block("java", readme), folder);
            DUE.is("the example prints what is said of it", printed.equals(block("text", readme)) ? 1 : 0, 1);
            if (!printed.equals(block("text", readme))) {
                System.out.println(printed);
            }
        } finally {
            for (File file : folder.toFile().listFiles()) {
                file.delete();
            }
            folder.toFile().delete();
        }
        DUE.end();
    }

    private static String printedBy(String example, Path folder) throws IOException, InterruptedException {
        Path source = folder.resolve("Example.java");
        Files.writeString(source, example);
        String program = System.getProperty("java.class.path");
        output("javac", "-Xlint:all", "-Werror", "-cp", program, "-d", folder.toString(), source.toString());
        return output("java", "-cp", program + File.pathSeparator + folder, "Example");
    }

    private static String output(String... command) throws IOException, InterruptedException {
        Process process = new ProcessBuilder(command).redirectError(ProcessBuilder.Redirect.INHERIT).start();
        String output = new String(process.getInputStream().readAllBytes());
        DUE.is(command[0] + " ends with", process.waitFor(), 0);
        return output.replace("\r", "");
    }

    private static String block(String kind, String readme) {
        Matcher block = Pattern.compile("(?s)```" + kind + "\n(.*?)```").matcher(readme);
        boolean stands = block.find();
        DUE.is("a block of " + kind, stands ? 1 : 0, 1);
        return stands ? block.group(1) : "";
    }
}
