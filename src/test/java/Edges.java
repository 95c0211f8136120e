import java.io.IOException;
import java.nio.file.Files;
import java.nio.file.Path;
import java.util.function.Consumer;
import java.util.function.Supplier;
import java.util.function.ToLongFunction;

/** Answers that are due by one sentence of the document after the other. */
final class Edges {
    private static final Path DOCUMENT = Path.of("..", "shared", "DOC.md");

    private final Check check;
    private final String document;
    private String heading = "";

    Edges(String title) {
        check = new Check(title);
        document = read();
    }

    private static String read() {
        try {
            return Files.readString(DOCUMENT);
        } catch (IOException e) {
            System.out.println("the sentences are not looked up: there is no " + DOCUMENT);
            return null;
        }
    }

    /** The answers from here on are those of this sentence, which stands in this section of the document. */
    void sentence(String section, String words) {
        heading = section + " \"" + words + "\": ";
        if (document != null) {
            check.due(heading + "stands in the document", stands(section, words) ? 1 : 0, 1);
        }
    }

    private boolean stands(String section, String words) {
        int start = document.indexOf("## " + section + "\n");
        if (start < 0) {
            return false;
        }
        int end = document.indexOf("\n## ", start);
        return document.substring(start, end < 0 ? document.length() : end).contains(words);
    }

    void due(String what, long got, long want) {
        check.due(heading + what, got, want);
    }

    /** The call is refused, and all is as if it had not been made. */
    void refused(String call, ToLongFunction<Bridge> made, long want) {
        refusedIn(Scene::filled, call, made, want);
    }

    /** As refused, also for a call that may be made of a new object. */
    void refusedAlsoAtFirst(String call, ToLongFunction<Bridge> made, long want) {
        refused(call, made, want);
        refusedIn(Bridge::new, call + " of a new object", made, want);
    }

    void refusedIn(Supplier<Bridge> scene, String call, ToLongFunction<Bridge> made, long want) {
        Bridge x = scene.get();
        Bridge y = scene.get();
        due(call, made.applyAsLong(x), want);
        alike(call + " changes nothing that is told", Scene.told(x), Scene.told(y));
        alike(call + " changes nothing that is held", Scene.held(x), Scene.held(y));
    }

    /** The call THROWS a kind, which is told as the latest; no place and no OBJECT changes. */
    void thrown(String call, Consumer<Bridge> ahead, ToLongFunction<Bridge> made, int kind) {
        Bridge x = Scene.filled();
        Bridge y = Scene.filled();
        ahead.accept(x);
        ahead.accept(y);
        due(call, made.applyAsLong(x), -10 - kind);
        due(call + " tells what it THREW", x.latest(), kind);
        alike(call + " changes nothing that is held", Scene.held(x), Scene.held(y));
    }

    void alike(String what, String got, String want) {
        check.alike(heading + what, got, want);
    }

    void end() {
        check.end();
    }
}
