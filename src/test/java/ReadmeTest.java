import java.io.IOException;
import java.nio.file.Files;
import java.nio.file.Path;
import java.util.ArrayList;
import java.util.List;

/** The example of README.md: each call answers what stands behind it. */
public final class ReadmeTest {
    private static final Checks C = new Checks();
    private static final String FENCE = "```";

    public static void main(String[] args) throws IOException, ReflectiveOperationException {
        String[] parts = Files.readString(Path.of("README.md")).split(FENCE);
        List<String> examples = new ArrayList<>();
        for (String part : parts) {
            if (part.startsWith("java\n")) {
                examples.add(part.substring(5));
            }
        }
        C.due("examples", examples.size(), 2);
        List<String> calls = new ArrayList<>();
        String body = body(examples.get(1), calls);
        C.due("calls of the example", calls.size() > 10 ? 1 : 0, 1);
        ClassLoader loader = new JavacInMemory().compile("public class P {\n" + examples.get(0)
                + "public static void run(java.util.List<Integer> answers) {\n" + body + "}\n}\n");
        C.due("the example compiles", loader == null ? 0 : 1, 1);
        if (loader != null) {
            List<Integer> answers = new ArrayList<>();
            loader.loadClass("P").getMethod("run", List.class).invoke(null, answers);
            for (int i = 0; i < calls.size(); i++) {
                C.due(calls.get(i), answers.get(i), due(calls.get(i)));
            }
        }
        C.end();
    }

    /** The example as it stands, but that each answer which is told is kept. */
    private static String body(String example, List<String> calls) {
        StringBuilder body = new StringBuilder();
        for (String line : example.split("\n")) {
            if (line.startsWith("x.") && line.contains("//")) {
                calls.add(line);
                body.append("answers.add(" + line.substring(0, line.indexOf(';')) + ");\n");
            } else {
                body.append(line + "\n");
            }
        }
        return body.toString();
    }

    private static int due(String call) {
        String told = call.substring(call.indexOf("//") + 2).strip().split("[:; ]")[0];
        return told.equals("NONE") ? MakerStarts.NONE : Integer.parseInt(told);
    }
}
