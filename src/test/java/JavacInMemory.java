import java.io.ByteArrayOutputStream;
import java.io.OutputStream;
import java.net.URI;
import java.util.HashMap;
import java.util.List;
import java.util.Map;
import javax.tools.FileObject;
import javax.tools.ForwardingJavaFileManager;
import javax.tools.JavaCompiler;
import javax.tools.JavaFileManager;
import javax.tools.JavaFileObject;
import javax.tools.SimpleJavaFileObject;
import javax.tools.StandardJavaFileManager;
import javax.tools.ToolProvider;

/** Compiles a class P and loads it, all in memory. */
final class JavacInMemory {
    private final JavaCompiler compiler = ToolProvider.getSystemJavaCompiler();
    private final Files files = new Files(compiler.getStandardFileManager(null, null, null));

    /** The classes by their names; null if javac refuses the source. */
    ClassLoader compile(String source) {
        files.made.clear();
        JavaFileObject file = new Source(source);
        // What javac says of a refused source is of no interest here.
        boolean right = compiler.getTask(null, files, said -> { }, List.of("-proc:none"), null, List.of(file)).call();
        return right ? new Loader(new HashMap<>(files.made)) : null;
    }

    private static final class Source extends SimpleJavaFileObject {
        private final String source;

        Source(String source) {
            super(URI.create("memory:///P.java"), Kind.SOURCE);
            this.source = source;
        }

        @Override
        public CharSequence getCharContent(boolean ignoreEncodingErrors) {
            return source;
        }
    }

    private static final class Made extends SimpleJavaFileObject {
        private final ByteArrayOutputStream bytes = new ByteArrayOutputStream();

        Made(String name) {
            super(URI.create("memory:///" + name + ".class"), Kind.CLASS);
        }

        @Override
        public OutputStream openOutputStream() {
            return bytes;
        }
    }

    private static final class Files extends ForwardingJavaFileManager<StandardJavaFileManager> {
        private final Map<String, Made> made = new HashMap<>();

        Files(StandardJavaFileManager files) {
            super(files);
        }

        @Override
        public JavaFileObject getJavaFileForOutput(
                JavaFileManager.Location location, String name, JavaFileObject.Kind kind, FileObject sibling) {
            made.put(name, new Made(name));
            return made.get(name);
        }
    }

    private static final class Loader extends ClassLoader {
        private final Map<String, Made> made;

        Loader(Map<String, Made> made) {
            super(JavacInMemory.class.getClassLoader());
            this.made = made;
        }

        @Override
        protected Class<?> findClass(String name) throws ClassNotFoundException {
            if (!made.containsKey(name)) {
                throw new ClassNotFoundException(name);
            }
            byte[] bytes = made.get(name).bytes.toByteArray();
            return defineClass(name, bytes, 0, bytes.length);
        }
    }
}
