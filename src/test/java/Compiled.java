import java.io.ByteArrayOutputStream;
import java.io.OutputStream;
import java.io.StringWriter;
import java.net.URI;
import java.util.HashMap;
import java.util.List;
import java.util.Map;
import javax.tools.FileObject;
import javax.tools.ForwardingJavaFileManager;
import javax.tools.JavaCompiler;
import javax.tools.JavaFileManager;
import javax.tools.JavaFileObject;
import javax.tools.SimpleJavaFileObject;
import javax.tools.ToolProvider;

/** Compiles a source that a test has made, and loads it in place of a class of the same name. */
final class Compiled extends ClassLoader {
    private final Map<String, ByteArrayOutputStream> classes = new HashMap<>();

    private Compiled() {
        super(Compiled.class.getClassLoader());
    }

    static Class<?> of(String name, String text) throws ClassNotFoundException {
        Compiled loader = new Compiled();
        loader.compile(new Source(name, text));
        return Class.forName(name, true, loader);
    }

    private void compile(Source source) {
        JavaCompiler compiler = ToolProvider.getSystemJavaCompiler();
        StringWriter told = new StringWriter();
        JavaFileManager files = new InMemory(compiler.getStandardFileManager(null, null, null));
        List<String> options = List.of("-proc:none", "-classpath", System.getProperty("java.class.path"));
        if (!compiler.getTask(told, files, null, options, null, List.of(source)).call()) {
            throw new IllegalStateException(told + "\n" + source.getCharContent(true));
        }
    }

    /** Looks here first, as the class that is asked for may stand on the class path, too. */
    @Override
    protected Class<?> loadClass(String name, boolean isResolved) throws ClassNotFoundException {
        ByteArrayOutputStream bytes = classes.remove(name);
        if (bytes != null) {
            return defineClass(name, bytes.toByteArray(), 0, bytes.size());
        }
        Class<?> loaded = findLoadedClass(name);
        return loaded != null ? loaded : super.loadClass(name, isResolved);
    }

    private static final class Source extends SimpleJavaFileObject {
        private final String text;

        Source(String name, String text) {
            super(URI.create("string:///" + name + ".java"), Kind.SOURCE);
            this.text = text;
        }

        @Override
        public String getCharContent(boolean isLenient) {
            return text;
        }
    }

    private final class InMemory extends ForwardingJavaFileManager<JavaFileManager> {
        InMemory(JavaFileManager files) {
            super(files);
        }

        @Override
        public JavaFileObject getJavaFileForOutput(Location place, String name, JavaFileObject.Kind kind,
                FileObject from) {
            return new SimpleJavaFileObject(URI.create("bytes:///" + name + ".class"), kind) {
                @Override
                public OutputStream openOutputStream() {
                    return classes.computeIfAbsent(name, any -> new ByteArrayOutputStream());
                }
            };
        }
    }
}
