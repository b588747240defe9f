import java.io.File;
import java.io.IOException;
import java.io.InputStream;
import java.nio.charset.StandardCharsets;
import java.nio.file.Files;
import java.nio.file.Path;
import java.util.ArrayList;
import java.util.Collections;
import java.util.List;
import java.util.stream.Stream;

/**
 * A small checkout of its own, with ../shared beside it, in which commands are run as a reader of
 * README.md would; so that they leave nothing in the real one, and .ci/run need not run itself.
 */
public final class Checkout {
    public static final String MAIN = "src/main/java/Pivotforge.java";

    private final Path top;
    private final Path root;
    private String output = "";

    /** With the class and .ci/run alone. */
    public Checkout() {
        try {
            top = Files.createTempDirectory("pivotforge-checkout");
        } catch (IOException e) {
            throw new IllegalStateException("no place for a checkout: " + e);
        }
        root = top.resolve("main");
        copy(MAIN);
        copy(".ci/run");
    }

    /** A file, or a folder with its files, of the real checkout. */
    public void copy(String name) {
        Path from = Path.of(name);
        try {
            if (Files.isDirectory(from)) {
                for (String inside : names(from)) {
                    copy(name + "/" + inside);
                }
                return;
            }
            Path to = place(name);
            Files.write(to, Files.readAllBytes(from));
            if (Files.isExecutable(from) && !to.toFile().setExecutable(true)) {
                throw new IllegalStateException(name + " cannot be made executable");
            }
        } catch (IOException e) {
            throw new IllegalStateException(name + " cannot be copied: " + e);
        }
    }

    public void write(String name, String text) {
        try {
            Files.write(place(name), text.getBytes(StandardCharsets.UTF_8));
        } catch (IOException e) {
            throw new IllegalStateException(name + " cannot be written: " + e);
        }
    }

    /** The part must be there, so that no change is one in name alone. */
    public void change(String name, String part, String other) {
        String text = read(root.resolve(name));
        if (!text.contains(part)) {
            throw new IllegalStateException(name + " has no " + part);
        }
        write(name, text.replace(part, other));
    }

    /** Runs lines of a shell in the root; what they print is then had from output() and errors(). */
    public int run(String commands) {
        ProcessBuilder builder = new ProcessBuilder("sh", "-e", "-c", commands);
        builder.directory(root.toFile()).redirectError(top.resolve("errors").toFile());
        try {
            Process process = builder.start();
            process.getOutputStream().close();
            try (InputStream printed = process.getInputStream()) {
                output = new String(printed.readAllBytes(), StandardCharsets.UTF_8);
            }
            return process.waitFor();
        } catch (IOException | InterruptedException e) {
            throw new IllegalStateException("it cannot be run: " + commands + ": " + e);
        }
    }

    public String output() {
        return output;
    }

    /** Apart, as the machine may have words of its own there. */
    public String errors() {
        return read(top.resolve("errors"));
    }

    public List<String> lines() {
        return List.of(output.split("\n"));
    }

    public void delete() {
        delete(top.toFile());
    }

    public static String read(Path file) {
        try {
            return Files.readString(file, StandardCharsets.UTF_8);
        } catch (IOException e) {
            throw new IllegalStateException(file + " cannot be read: " + e);
        }
    }

    public static List<String> names(Path folder) {
        List<String> names = new ArrayList<>();
        try (Stream<Path> files = Files.list(folder)) {
            files.forEach(file -> names.add(file.getFileName().toString()));
        } catch (IOException e) {
            throw new IllegalStateException(folder + " cannot be listed: " + e);
        }
        Collections.sort(names);
        return names;
    }

    private Path place(String name) throws IOException {
        Path place = root.resolve(name).normalize();
        Files.createDirectories(place.getParent());
        return place;
    }

    private static void delete(File file) {
        File[] inside = file.listFiles();
        for (File one : inside == null ? new File[0] : inside) {
            delete(one);
        }
        file.delete();
    }
}
